section
-- ===== PART A: goes FIRST, ahead of the names: the tables' words, and 'selects' of the private methods out of them =====
/-- a private method of a class that the tables say can be made, by its rows of tables_1 -/
def lw_okq (q : MethodName × Nat) : Prop := (q.1.cls ≠ "java/lang/invoke/MethodHandle" ∧ q.1.cls ≠ "java/lang/invoke/VarHandle") ∧ Cond.instantiable q.1.cls q.2 ∈ tables_1 ∧ Cond.privateMethod q.1 ∈ tables_1 ∧ Cond.instanceMethod q.1 ∈ tables_1
theorem lw_p0 : lw_okq (⟨"StickRests$History", "placeOf", "(I)I"⟩, 3) := ⟨⟨by decide +kernel, by decide +kernel⟩, List.mem_of_getElem? (i := 138) (by decide +kernel), List.mem_of_getElem? (i := 185) (by decide +kernel), List.mem_of_getElem? (i := 186) (by decide +kernel)⟩
theorem lw_p1 : lw_okq (⟨"StickRests", "takeAlike", "(III)I"⟩, 5) := ⟨⟨by decide +kernel, by decide +kernel⟩, List.mem_of_getElem? (i := 10) (by decide +kernel), List.mem_of_getElem? (i := 213) (by decide +kernel), List.mem_of_getElem? (i := 214) (by decide +kernel)⟩
theorem lw_p2 : lw_okq (⟨"StickRests$Stick", "farthestOff", "(II)I"⟩, 17) := ⟨⟨by decide +kernel, by decide +kernel⟩, List.mem_of_getElem? (i := 18) (by decide +kernel), List.mem_of_getElem? (i := 232) (by decide +kernel), List.mem_of_getElem? (i := 233) (by decide +kernel)⟩
theorem lw_p3 : lw_okq (⟨"StickRests$Stick", "stillWith", "(II)I"⟩, 17) := ⟨⟨by decide +kernel, by decide +kernel⟩, List.mem_of_getElem? (i := 18) (by decide +kernel), List.mem_of_getElem? (i := 254) (by decide +kernel), List.mem_of_getElem? (i := 255) (by decide +kernel)⟩
theorem lw_p4 : lw_okq (⟨"StickRests$Stick", "leanOf", "(I)I"⟩, 17) := ⟨⟨by decide +kernel, by decide +kernel⟩, List.mem_of_getElem? (i := 18) (by decide +kernel), List.mem_of_getElem? (i := 261) (by decide +kernel), List.mem_of_getElem? (i := 262) (by decide +kernel)⟩
theorem lw_p5 : lw_okq (⟨"StickRests$Stick", "comeToRest", "(II)V"⟩, 17) := ⟨⟨by decide +kernel, by decide +kernel⟩, List.mem_of_getElem? (i := 18) (by decide +kernel), List.mem_of_getElem? (i := 271) (by decide +kernel), List.mem_of_getElem? (i := 272) (by decide +kernel)⟩
theorem lw_p6 : lw_okq (⟨"StickRests$Stick", "tellsSomething", "()Z"⟩, 17) := ⟨⟨by decide +kernel, by decide +kernel⟩, List.mem_of_getElem? (i := 18) (by decide +kernel), List.mem_of_getElem? (i := 275) (by decide +kernel), List.mem_of_getElem? (i := 276) (by decide +kernel)⟩
theorem lw_p7 : lw_okq (⟨"StickRests$Stick", "fitZone", "(I)V"⟩, 17) := ⟨⟨by decide +kernel, by decide +kernel⟩, List.mem_of_getElem? (i := 18) (by decide +kernel), List.mem_of_getElem? (i := 279) (by decide +kernel), List.mem_of_getElem? (i := 280) (by decide +kernel)⟩
theorem lw_p8 : lw_okq (⟨"StickRests$Stick", "driftTo", "(II)V"⟩, 17) := ⟨⟨by decide +kernel, by decide +kernel⟩, List.mem_of_getElem? (i := 18) (by decide +kernel), List.mem_of_getElem? (i := 283) (by decide +kernel), List.mem_of_getElem? (i := 284) (by decide +kernel)⟩
theorem lw_p9 : lw_okq (⟨"StickRests$Stick", "tell", "(I)V"⟩, 17) := ⟨⟨by decide +kernel, by decide +kernel⟩, List.mem_of_getElem? (i := 18) (by decide +kernel), List.mem_of_getElem? (i := 287) (by decide +kernel), List.mem_of_getElem? (i := 288) (by decide +kernel)⟩
theorem lw_p10 : lw_okq (⟨"StickRests$Stick", "about", "(IIII)I"⟩, 17) := ⟨⟨by decide +kernel, by decide +kernel⟩, List.mem_of_getElem? (i := 18) (by decide +kernel), List.mem_of_getElem? (i := 315) (by decide +kernel), List.mem_of_getElem? (i := 316) (by decide +kernel)⟩
theorem lw_p11 : lw_okq (⟨"StickRests$Stick", "isDown", "(I)Z"⟩, 17) := ⟨⟨by decide +kernel, by decide +kernel⟩, List.mem_of_getElem? (i := 18) (by decide +kernel), List.mem_of_getElem? (i := 422) (by decide +kernel), List.mem_of_getElem? (i := 423) (by decide +kernel)⟩
def lw_privs_1 : List (MethodName × Nat) := [(⟨"StickRests$History", "placeOf", "(I)I"⟩, 3), (⟨"StickRests", "takeAlike", "(III)I"⟩, 5), (⟨"StickRests$Stick", "farthestOff", "(II)I"⟩, 17), (⟨"StickRests$Stick", "stillWith", "(II)I"⟩, 17), (⟨"StickRests$Stick", "leanOf", "(I)I"⟩, 17), (⟨"StickRests$Stick", "comeToRest", "(II)V"⟩, 17), (⟨"StickRests$Stick", "tellsSomething", "()Z"⟩, 17), (⟨"StickRests$Stick", "fitZone", "(I)V"⟩, 17), (⟨"StickRests$Stick", "driftTo", "(II)V"⟩, 17), (⟨"StickRests$Stick", "tell", "(I)V"⟩, 17), (⟨"StickRests$Stick", "about", "(IIII)I"⟩, 17), (⟨"StickRests$Stick", "isDown", "(I)Z"⟩, 17)]
theorem lw_r1 : ∀ q ∈ lw_privs_1, lw_okq q := List.forall_mem_cons.mpr ⟨lw_p0, List.forall_mem_cons.mpr ⟨lw_p1, List.forall_mem_cons.mpr ⟨lw_p2, List.forall_mem_cons.mpr ⟨lw_p3, List.forall_mem_cons.mpr ⟨lw_p4, List.forall_mem_cons.mpr ⟨lw_p5, List.forall_mem_cons.mpr ⟨lw_p6, List.forall_mem_cons.mpr ⟨lw_p7, List.forall_mem_cons.mpr ⟨lw_p8, List.forall_mem_cons.mpr ⟨lw_p9, List.forall_mem_cons.mpr ⟨lw_p10, List.forall_mem_cons.mpr ⟨lw_p11, fun _ h => absurd h List.not_mem_nil⟩⟩⟩⟩⟩⟩⟩⟩⟩⟩⟩⟩
def lw_privs : List (MethodName × Nat) := lw_privs_1
def lw_tbl : List Cond := k2_sels lw_privs ++ tables_1
theorem lw_privs_ok : ∀ q ∈ lw_privs, lw_okq q := lw_r1
end
section
/-! ===== BEGIN words of one list among another's, by their places ===== -/
theorem goodIn_r {big : List Cond} (ws : List Cond) (ps : List Nat) (hp : ws = ps.filterMap (fun i => big[i]?)) (h : ws.all goodWord = true) : GoodIn big ws := by
  intro w hw
  have h1 := List.all_eq_true.mp h w hw
  rw [hp] at hw
  obtain ⟨i, -, hi⟩ := List.mem_filterMap.mp hw
  have hm : w ∈ big := by first | exact List.mem_of_getElem? hi | exact List.getElem?_mem hi
  exact ⟨hm, good_of_word h1⟩
theorem goodIn_app {big a b : List Cond} (ha : GoodIn big a) (hb : GoodIn big b) : GoodIn big (a ++ b) := fun w h => (List.mem_append.mp h).elim (ha w) (hb w)
theorem goodIn_ca {big a b : List Cond} {c : Cond} (ha : GoodIn big (c :: a)) (hb : GoodIn big b) : GoodIn big (c :: (a ++ b)) := fun w h => (List.mem_cons.mp h).elim (fun e => ha w (List.mem_cons.mpr (Or.inl e))) (fun h => (List.mem_append.mp h).elim (fun h => ha w (List.mem_cons.mpr (Or.inr h))) (hb w))
theorem goodIn_sub {big ws : List Cond} (hm : ∀ w ∈ ws, w ∈ big) (h : ws.all goodWord = true) : GoodIn big ws := fun w hw => ⟨hm w hw, good_of_word (List.all_eq_true.mp h w hw)⟩
/-! ===== END ===== -/

/-! ===== BEGIN printed: names, fields, word lists, decode rows ===== -/
def RX0 : String := "StickRests$Directions"
def TX0 : u_T := fun k => match k with
  | 0 => ("StickRests$Directions", "byRank", "[I", true)
  | 1 => ("StickRests$Directions", "samplesIn", "[I", true)
  | 2 => ("StickRests$Directions", "longest", "[I", true)
  | 3 => ("StickRests$Directions", "unlike", "I", false)
  | 4 => ("StickRests$Directions", "latest", "I", false)
  | _ => ("StickRests$Directions", "run", "I", false)
def tyX0 : Nat → FieldType := fun k => match k with
  | 0 => .array .int
  | 1 => .array .int
  | 2 => .array .int
  | 3 => .int
  | 4 => .int
  | _ => .int
abbrev wsX00 : List Cond := u_ws RX0 TX0 6
theorem nmX0 : ∀ a, a < 6 → ∀ b, b < 6 → a ≠ b → (TX0 a).2.1 ≠ (TX0 b).2.1 := by decide +kernel
theorem tyX0_ok : ∀ k, k < 6 → parseFieldDescriptor (TX0 k).2.2.1 = some (tyX0 k) := by decide +kernel
abbrev cX0_init : ByteArray := prog_2_method_1_code
def yX0_init : MethodName := ⟨RX0, "<init>", "()V"⟩
abbrev cX0_becomeLike : ByteArray := prog_2_method_2_code
def yX0_becomeLike : MethodName := ⟨RX0, "becomeLike", "(LStickRests$Directions;)V"⟩
abbrev cX0_note : ByteArray := prog_2_method_3_code
def yX0_note : MethodName := ⟨RX0, "note", "(II)V"⟩
abbrev cX0_about : ByteArray := prog_2_method_4_code
def yX0_about : MethodName := ⟨RX0, "about", "(II)I"⟩
def RX1 : String := "StickRests$History"
def TX1 : u_T := fun k => match k with
  | 0 => ("StickRests$History", "states", "[LStickRests$Stick;", true)
  | 1 => ("StickRests$History", "oldest", "I", false)
  | _ => ("StickRests$History", "size", "I", false)
def tyX1 : Nat → FieldType := fun k => match k with
  | 0 => .array (.object "StickRests$Stick")
  | 1 => .int
  | _ => .int
abbrev wsX10 : List Cond := u_ws RX1 TX1 3
theorem nmX1 : ∀ a, a < 3 → ∀ b, b < 3 → a ≠ b → (TX1 a).2.1 ≠ (TX1 b).2.1 := by decide +kernel
theorem tyX1_ok : ∀ k, k < 3 → parseFieldDescriptor (TX1 k).2.2.1 = some (tyX1 k) := by decide +kernel
abbrev cX1_init : ByteArray := prog_3_method_1_code
def yX1_init : MethodName := ⟨RX1, "<init>", "()V"⟩
abbrev cX1_placeOf : ByteArray := prog_3_method_2_code
def yX1_placeOf : MethodName := ⟨RX1, "placeOf", "(I)I"⟩
abbrev cX1_keep : ByteArray := prog_3_method_3_code
def yX1_keep : MethodName := ⟨RX1, "keep", "(LStickRests$Stick;)V"⟩
abbrev cX1_takeBack : ByteArray := prog_3_method_4_code
def yX1_takeBack : MethodName := ⟨RX1, "takeBack", "(LStickRests$Stick;)I"⟩
def RX2 : String := "StickRests$Pad"
def TX2 : u_T := fun k => match k with
  | 0 => ("StickRests$Pad", "text", "[C", true)
  | 1 => ("StickRests$Pad", "length", "I", false)
  | 2 => ("StickRests$Pad", "place", "I", false)
  | 3 => ("StickRests$Pad", "kind", "C", false)
  | 4 => ("StickRests$Pad", "first", "I", false)
  | 5 => ("StickRests$Pad", "second", "I", false)
  | _ => ("StickRests$Pad", "times", "I", false)
def tyX2 : Nat → FieldType := fun k => match k with
  | 0 => .array .char
  | 1 => .int
  | 2 => .int
  | 3 => .char
  | 4 => .int
  | 5 => .int
  | _ => .int
abbrev wsX20 : List Cond := u_ws RX2 TX2 7
theorem nmX2 : ∀ a, a < 7 → ∀ b, b < 7 → a ≠ b → (TX2 a).2.1 ≠ (TX2 b).2.1 := by decide +kernel
theorem tyX2_ok : ∀ k, k < 7 → parseFieldDescriptor (TX2 k).2.2.1 = some (tyX2 k) := by decide +kernel
abbrev cX2_init : ByteArray := prog_4_method_1_code
def yX2_init : MethodName := ⟨RX2, "<init>", "()V"⟩
def RX3 : String := "StickRests$Stick"
def TX3 : u_T := fun k => match k with
  | 0 => ("StickRests$Stick", "settings", "[I", true)
  | 1 => ("StickRests$Stick", "directions", "LStickRests$Directions;", true)
  | 2 => ("StickRests$Stick", "restX", "I", false)
  | 3 => ("StickRests$Stick", "restY", "I", false)
  | 4 => ("StickRests$Stick", "zone", "I", false)
  | 5 => ("StickRests$Stick", "tellX", "I", false)
  | 6 => ("StickRests$Stick", "tellY", "I", false)
  | 7 => ("StickRests$Stick", "latestX", "I", false)
  | 8 => ("StickRests$Stick", "latestY", "I", false)
  | 9 => ("StickRests$Stick", "still", "I", false)
  | 10 => ("StickRests$Stick", "shaking", "I", false)
  | 11 => ("StickRests$Stick", "samples", "I", false)
  | 12 => ("StickRests$Stick", "letGo", "I", false)
  | 13 => ("StickRests$Stick", "drifted", "I", false)
  | 14 => ("StickRests$Stick", "down", "I", false)
  | 15 => ("StickRests$Stick", "tellingSamples", "I", false)
  | _ => ("StickRests$Stick", "shakenInZone", "I", false)
def tyX3 : Nat → FieldType := fun k => match k with
  | 0 => .array .int
  | 1 => .object "StickRests$Directions"
  | 2 => .int
  | 3 => .int
  | 4 => .int
  | 5 => .int
  | 6 => .int
  | 7 => .int
  | 8 => .int
  | 9 => .int
  | 10 => .int
  | 11 => .int
  | 12 => .int
  | 13 => .int
  | 14 => .int
  | 15 => .int
  | _ => .int
abbrev wsX30 : List Cond := u_ws RX3 TX3 17
theorem nmX3 : ∀ a, a < 17 → ∀ b, b < 17 → a ≠ b → (TX3 a).2.1 ≠ (TX3 b).2.1 := by decide +kernel
theorem tyX3_ok : ∀ k, k < 17 → parseFieldDescriptor (TX3 k).2.2.1 = some (tyX3 k) := by decide +kernel
abbrev cX3_init : ByteArray := prog_5_method_1_code
def yX3_init : MethodName := ⟨RX3, "<init>", "()V"⟩
abbrev cX3_becomeLike : ByteArray := prog_5_method_2_code
def yX3_becomeLike : MethodName := ⟨RX3, "becomeLike", "(LStickRests$Stick;)V"⟩
abbrev cX3_changeSetting : ByteArray := prog_5_method_3_code
def yX3_changeSetting : MethodName := ⟨RX3, "changeSetting", "(II)I"⟩
abbrev cX3_toMiddle : ByteArray := prog_5_method_4_code
def yX3_toMiddle : MethodName := ⟨RX3, "toMiddle", "()I"⟩
abbrev cX3_refusalOfPress : ByteArray := prog_5_method_5_code
def yX3_refusalOfPress : MethodName := ⟨RX3, "refusalOfPress", "(I)I"⟩
abbrev cX3_refusalOfLetUp : ByteArray := prog_5_method_6_code
def yX3_refusalOfLetUp : MethodName := ⟨RX3, "refusalOfLetUp", "(I)I"⟩
abbrev cX3_isButton : ByteArray := prog_5_method_7_code
def yX3_isButton : MethodName := ⟨RX3, "isButton", "(I)Z"⟩
abbrev cX3_isDown : ByteArray := prog_5_method_8_code
def yX3_isDown : MethodName := ⟨RX3, "isDown", "(I)Z"⟩
abbrev cX3_pushDown : ByteArray := prog_5_method_9_code
def yX3_pushDown : MethodName := ⟨RX3, "pushDown", "(I)I"⟩
abbrev cX3_release : ByteArray := prog_5_method_10_code
def yX3_release : MethodName := ⟨RX3, "release", "(I)I"⟩
abbrev cX3_refusalOfSamples : ByteArray := prog_5_method_11_code
def yX3_refusalOfSamples : MethodName := ⟨RX3, "refusalOfSamples", "(III)I"⟩
abbrev cX3_restPlaceX : ByteArray := prog_5_method_12_code
def yX3_restPlaceX : MethodName := ⟨RX3, "restPlaceX", "()I"⟩
abbrev cX3_restPlaceY : ByteArray := prog_5_method_13_code
def yX3_restPlaceY : MethodName := ⟨RX3, "restPlaceY", "()I"⟩
abbrev cX3_isOffByNothing : ByteArray := prog_5_method_14_code
def yX3_isOffByNothing : MethodName := ⟨RX3, "isOffByNothing", "(II)Z"⟩
abbrev cX3_farthestOff : ByteArray := prog_5_method_15_code
def yX3_farthestOff : MethodName := ⟨RX3, "farthestOff", "(II)I"⟩
abbrev cX3_stillWith : ByteArray := prog_5_method_16_code
def yX3_stillWith : MethodName := ⟨RX3, "stillWith", "(II)I"⟩
abbrev cX3_wouldDrift : ByteArray := prog_5_method_17_code
def yX3_wouldDrift : MethodName := ⟨RX3, "wouldDrift", "(II)Z"⟩
abbrev cX3_tellingAt : ByteArray := prog_5_method_18_code
def yX3_tellingAt : MethodName := ⟨RX3, "tellingAt", "(II)I"⟩
abbrev cX3_leanOf : ByteArray := prog_5_method_19_code
def yX3_leanOf : MethodName := ⟨RX3, "leanOf", "(I)I"⟩
abbrev cX3_telling : ByteArray := prog_5_method_20_code
def yX3_telling : MethodName := ⟨RX3, "telling", "()I"⟩
abbrev cX3_tellsSomething : ByteArray := prog_5_method_21_code
def yX3_tellsSomething : MethodName := ⟨RX3, "tellsSomething", "()Z"⟩
abbrev cX3_take : ByteArray := prog_5_method_22_code
def yX3_take : MethodName := ⟨RX3, "take", "(II)V"⟩
abbrev cX3_tell : ByteArray := prog_5_method_23_code
def yX3_tell : MethodName := ⟨RX3, "tell", "(I)V"⟩
abbrev cX3_comeToRest : ByteArray := prog_5_method_24_code
def yX3_comeToRest : MethodName := ⟨RX3, "comeToRest", "(II)V"⟩
abbrev cX3_fitZone : ByteArray := prog_5_method_25_code
def yX3_fitZone : MethodName := ⟨RX3, "fitZone", "(I)V"⟩
abbrev cX3_driftTo : ByteArray := prog_5_method_26_code
def yX3_driftTo : MethodName := ⟨RX3, "driftTo", "(II)V"⟩
abbrev cX3_aboutX : ByteArray := prog_5_method_27_code
def yX3_aboutX : MethodName := ⟨RX3, "aboutX", "(I)I"⟩
abbrev cX3_aboutY : ByteArray := prog_5_method_28_code
def yX3_aboutY : MethodName := ⟨RX3, "aboutY", "(I)I"⟩
abbrev cX3_about : ByteArray := prog_5_method_29_code
def yX3_about : MethodName := ⟨RX3, "about", "(IIII)I"⟩
abbrev cX3_number : ByteArray := prog_5_method_30_code
def yX3_number : MethodName := ⟨RX3, "number", "(I)I"⟩
def RX4 : String := "StickRests"
def TX4 : u_T := fun k => match k with
  | 0 => ("StickRests", "stick", "LStickRests$Stick;", true)
  | 1 => ("StickRests", "trial", "LStickRests$Stick;", true)
  | 2 => ("StickRests", "pad", "LStickRests$Pad;", true)
  | 3 => ("StickRests", "history", "LStickRests$History;", true)
  | _ => ("StickRests", "slots", "[LStickRests$Stick;", true)
def tyX4 : Nat → FieldType := fun k => match k with
  | 0 => .object "StickRests$Stick"
  | 1 => .object "StickRests$Stick"
  | 2 => .object "StickRests$Pad"
  | 3 => .object "StickRests$History"
  | _ => .array (.object "StickRests$Stick")
abbrev wsX40 : List Cond := u_ws RX4 TX4 5
theorem nmX4 : ∀ a, a < 5 → ∀ b, b < 5 → a ≠ b → (TX4 a).2.1 ≠ (TX4 b).2.1 := by decide +kernel
theorem tyX4_ok : ∀ k, k < 5 → parseFieldDescriptor (TX4 k).2.2.1 = some (tyX4 k) := by decide +kernel
abbrev cX4_init : ByteArray := prog_1_method_1_code
def yX4_init : MethodName := ⟨RX4, "<init>", "()V"⟩
abbrev cX4_set : ByteArray := prog_1_method_2_code
def yX4_set : MethodName := ⟨RX4, "set", "(II)I"⟩
abbrev cX4_sample : ByteArray := prog_1_method_3_code
def yX4_sample : MethodName := ⟨RX4, "sample", "(II)I"⟩
abbrev cX4_hold : ByteArray := prog_1_method_4_code
def yX4_hold : MethodName := ⟨RX4, "hold", "(III)I"⟩
abbrev cX4_takeAlike : ByteArray := prog_1_method_5_code
def yX4_takeAlike : MethodName := ⟨RX4, "takeAlike", "(III)I"⟩
abbrev cX4_press : ByteArray := prog_1_method_6_code
def yX4_press : MethodName := ⟨RX4, "press", "(I)I"⟩
abbrev cX4_letUp : ByteArray := prog_1_method_7_code
def yX4_letUp : MethodName := ⟨RX4, "letUp", "(I)I"⟩
abbrev cX4_reset : ByteArray := prog_1_method_8_code
def yX4_reset : MethodName := ⟨RX4, "reset", "()I"⟩
abbrev cX4_of : ByteArray := prog_1_method_9_code
def yX4_of : MethodName := ⟨RX4, "of", "(II)I"⟩
abbrev cX4_direction : ByteArray := prog_1_method_10_code
def yX4_direction : MethodName := ⟨RX4, "direction", "(II)I"⟩
abbrev cX4_count : ByteArray := prog_1_method_11_code
def yX4_count : MethodName := ⟨RX4, "count", "(I)I"⟩
abbrev cX4_wouldTell : ByteArray := prog_1_method_12_code
def yX4_wouldTell : MethodName := ⟨RX4, "wouldTell", "(II)I"⟩
abbrev cX4_learnedIn : ByteArray := prog_1_method_13_code
def yX4_learnedIn : MethodName := ⟨RX4, "learnedIn", "(II)I"⟩
abbrev cX4_edge : ByteArray := prog_1_method_14_code
def yX4_edge : MethodName := ⟨RX4, "edge", "(II)I"⟩
abbrev cX4_driftsIn : ByteArray := prog_1_method_15_code
def yX4_driftsIn : MethodName := ⟨RX4, "driftsIn", "(II)I"⟩
abbrev cX4_undo : ByteArray := prog_1_method_23_code
def yX4_undo : MethodName := ⟨RX4, "undo", "()I"⟩
abbrev cX4_save : ByteArray := prog_1_method_24_code
def yX4_save : MethodName := ⟨RX4, "save", "(I)I"⟩
abbrev cX4_restore : ByteArray := prog_1_method_25_code
def yX4_restore : MethodName := ⟨RX4, "restore", "(I)I"⟩
abbrev cX4_isSample : ByteArray := prog_1_method_26_code
def yX4_isSample : MethodName := ⟨RX4, "isSample", "(II)Z"⟩
abbrev cX4_packed : ByteArray := prog_1_method_27_code
def yX4_packed : MethodName := ⟨RX4, "packed", "(II)I"⟩
abbrev cX4_quotient : ByteArray := prog_1_method_28_code
def yX4_quotient : MethodName := ⟨RX4, "quotient", "(II)I"⟩
def RX5 : String := "StickRestsModel"
def TX5 : u_T := fun k => match k with
  | _ => ("", "", "", false)
def tyX5 : Nat → FieldType := fun k => match k with
  | _ => .int
abbrev wsX50 : List Cond := u_ws RX5 TX5 0
theorem nmX5 : ∀ a, a < 0 → ∀ b, b < 0 → a ≠ b → (TX5 a).2.1 ≠ (TX5 b).2.1 := by decide +kernel
theorem tyX5_ok : ∀ k, k < 0 → parseFieldDescriptor (TX5 k).2.2.1 = some (tyX5 k) := by decide +kernel
def RJx8e188 : String := "java/lang/Cloneable"
def TJx8e188 : u_T := fun k => match k with
  | _ => ("", "", "", false)
def tyJx8e188 : Nat → FieldType := fun k => match k with
  | _ => .int
abbrev wsJx8e1880 : List Cond := u_ws RJx8e188 TJx8e188 0
theorem nmJx8e188 : ∀ a, a < 0 → ∀ b, b < 0 → a ≠ b → (TJx8e188 a).2.1 ≠ (TJx8e188 b).2.1 := by decide +kernel
theorem tyJx8e188_ok : ∀ k, k < 0 → parseFieldDescriptor (TJx8e188 k).2.2.1 = some (tyJx8e188 k) := by decide +kernel
def RJ6 : String := "java/lang/Integer"
def TJ6 : u_T := fun k => match k with
  | _ => ("", "", "", false)
def tyJ6 : Nat → FieldType := fun k => match k with
  | _ => .int
abbrev wsJ60 : List Cond := u_ws RJ6 TJ6 0
theorem nmJ6 : ∀ a, a < 0 → ∀ b, b < 0 → a ≠ b → (TJ6 a).2.1 ≠ (TJ6 b).2.1 := by decide +kernel
theorem tyJ6_ok : ∀ k, k < 0 → parseFieldDescriptor (TJ6 k).2.2.1 = some (tyJ6 k) := by decide +kernel
abbrev cJ6_compare_7cf53 : ByteArray := prog_9_method_40_code
def yJ6_compare_7cf53 : MethodName := ⟨RJ6, "compare", "(II)I"⟩
def RJ9 : String := "java/lang/Math"
def TJ9 : u_T := fun k => match k with
  | _ => ("", "", "", false)
def tyJ9 : Nat → FieldType := fun k => match k with
  | _ => .int
abbrev wsJ90 : List Cond := u_ws RJ9 TJ9 0
theorem nmJ9 : ∀ a, a < 0 → ∀ b, b < 0 → a ≠ b → (TJ9 a).2.1 ≠ (TJ9 b).2.1 := by decide +kernel
theorem tyJ9_ok : ∀ k, k < 0 → parseFieldDescriptor (TJ9 k).2.2.1 = some (tyJ9 k) := by decide +kernel
abbrev cJ9_floorMod_7cf53 : ByteArray := prog_10_method_50_code
def yJ9_floorMod_7cf53 : MethodName := ⟨RJ9, "floorMod", "(II)I"⟩
abbrev cJ9_abs_0f7a4 : ByteArray := prog_10_method_59_code
def yJ9_abs_0f7a4 : MethodName := ⟨RJ9, "abs", "(I)I"⟩
abbrev cJ9_max_7cf53 : ByteArray := prog_10_method_65_code
def yJ9_max_7cf53 : MethodName := ⟨RJ9, "max", "(II)I"⟩
abbrev cJ9_min_7cf53 : ByteArray := prog_10_method_69_code
def yJ9_min_7cf53 : MethodName := ⟨RJ9, "min", "(II)I"⟩
def RJ10 : String := "java/lang/System"
def TJ10 : u_T := fun k => match k with
  | _ => ("", "", "", false)
def tyJ10 : Nat → FieldType := fun k => match k with
  | _ => .int
abbrev wsJ100 : List Cond := u_ws RJ10 TJ10 0
theorem nmJ10 : ∀ a, a < 0 → ∀ b, b < 0 → a ≠ b → (TJ10 a).2.1 ≠ (TJ10 b).2.1 := by decide +kernel
theorem tyJ10_ok : ∀ k, k < 0 → parseFieldDescriptor (TJ10 k).2.2.1 = some (tyJ10 k) := by decide +kernel
def RL : String := "StickRestsLaw"
abbrev cL_cell : ByteArray := method_2_code
def yL_cell : MethodName := ⟨RL, "cell", "([II)I"⟩
abbrev cL_low : ByteArray := method_3_code
def yL_low : MethodName := ⟨RL, "low", "(II)I"⟩
abbrev cL_size : ByteArray := method_4_code
def yL_size : MethodName := ⟨RL, "size", "(I)I"⟩
abbrev cL_greater : ByteArray := method_5_code
def yL_greater : MethodName := ⟨RL, "greater", "(II)I"⟩
abbrev cL_isStick : ByteArray := method_6_code
def yL_isStick : MethodName := ⟨RL, "isStick", "(LStickRests;)Z"⟩
abbrev cL_isSample : ByteArray := method_7_code
def yL_isSample : MethodName := ⟨RL, "isSample", "(LStickRests;II)Z"⟩
abbrev cL_isIn : ByteArray := method_8_code
def yL_isIn : MethodName := ⟨RL, "isIn", "(LStickRests;II)Z"⟩
abbrev cL_isEdge : ByteArray := method_9_code
def yL_isEdge : MethodName := ⟨RL, "isEdge", "(LStickRests;II)Z"⟩
abbrev cL_does : ByteArray := method_10_code
def yL_does : MethodName := ⟨RL, "does", "(LStickRests;II)Z"⟩
abbrev cL_law : ByteArray := code
def yL_law : MethodName := ⟨RL, "law", "([I)Z"⟩
def wsL_law_r1 : List Cond := [Cond.classLink RL 9 RX4, Cond.instantiable RX4 5, Cond.initialized RX4, Cond.constant RL 50 (100100), Cond.methodLink RL 75 yX4_init, Cond.instanceMethod yX4_init, Cond.code yX4_init cX4_init 1 none, Cond.methodLink RX4 1 objectInit, Cond.instanceMethod objectInit, Cond.code objectInit ⟨#[0xb1]⟩ 1 none, Cond.classLink RX4 7 RX3, Cond.instantiable RX3 17, Cond.initialized RX3, Cond.fieldLink RX4 10 "StickRests" "stick" "LStickRests$Stick;", Cond.fieldLink RX4 16 "StickRests" "trial" "LStickRests$Stick;", Cond.classLink RX4 19 RX2, Cond.instantiable RX2 7, Cond.initialized RX2, Cond.fieldLink RX4 22 "StickRests" "pad" "LStickRests$Pad;", Cond.classLink RX4 26 RX1, Cond.instantiable RX1 3, Cond.initialized RX1, Cond.fieldLink RX4 29 "StickRests" "history" "LStickRests$History;", Cond.fieldLink RX4 33 "StickRests" "slots" "[LStickRests$Stick;"]
def wsL_law_r2 : List Cond := [Cond.methodLink RX4 9 yX3_init, Cond.instanceMethod yX3_init, Cond.code yX3_init cX3_init 1 none, Cond.methodLink RX3 3 objectInit, Cond.methodLink RX3 13 ⟨"[I", "clone", "()Ljava/lang/Object;"⟩, Cond.sameMethod "[I" "java/lang/Object" "clone" "()Ljava/lang/Object;", Cond.native ⟨"java/lang/Object", "clone", "()Ljava/lang/Object;"⟩, Cond.instanceMethod ⟨"java/lang/Object", "clone", "()Ljava/lang/Object;"⟩, Cond.selects "[I" ⟨"[I", "clone", "()Ljava/lang/Object;"⟩ ⟨"java/lang/Object", "clone", "()Ljava/lang/Object;"⟩, Cond.classLink RX3 14 "[I", Cond.fieldLink RX3 18 "StickRests$Stick" "settings" "[I", Cond.classLink RX3 23 RX0, Cond.instantiable RX0 6, Cond.initialized RX0, Cond.fieldLink RX3 26 "StickRests$Stick" "directions" "LStickRests$Directions;", Cond.fieldLink RX3 30 "StickRests$Stick" "restX" "I", Cond.fieldLink RX3 34 "StickRests$Stick" "restY" "I", Cond.fieldLink RX3 37 "StickRests$Stick" "zone" "I", Cond.methodLink RX3 25 yX0_init, Cond.instanceMethod yX0_init, Cond.code yX0_init cX0_init 1 none, Cond.methodLink RX0 3 objectInit, Cond.arrayClass .int, Cond.fieldLink RX0 9 "StickRests$Directions" "byRank" "[I"]
def wsL_law_r3 : List Cond := [Cond.fieldLink RX0 15 "StickRests$Directions" "samplesIn" "[I", Cond.fieldLink RX0 18 "StickRests$Directions" "longest" "[I", Cond.fieldLink RX0 21 "StickRests$Directions" "latest" "I", Cond.methodLink RX4 21 yX2_init, Cond.instanceMethod yX2_init, Cond.code yX2_init cX2_init 1 none, Cond.methodLink RX2 3 objectInit, Cond.arrayClass .char, Cond.fieldLink RX2 9 "StickRests$Pad" "text" "[C", Cond.methodLink RX4 28 yX1_init, Cond.instanceMethod yX1_init, Cond.code yX1_init cX1_init 1 none, Cond.methodLink RX1 3 objectInit, Cond.classLink RX1 9 RX3, Cond.fieldLink RX1 11 "StickRests$History" "states" "[LStickRests$Stick;", Cond.methodLink RL 76 yL_isStick, Cond.static yL_isStick, Cond.initialized RL, Cond.code yL_isStick cL_isStick 11 (some .boolean), Cond.methodLink RL 8 yX4_count, Cond.instanceMethod yX4_count, Cond.selects RX4 yX4_count yX4_count, Cond.code yX4_count cX4_count 2 (some .int), Cond.methodLink RX4 105 yX3_number]
def wsL_law_r4 : List Cond := [Cond.instanceMethod yX3_number, Cond.selects RX3 yX3_number yX3_number, Cond.code yX3_number cX3_number 2 (some .int), Cond.fieldLink RX3 68 "StickRests$Stick" "samples" "I", Cond.fieldLink RX3 62 "StickRests$Stick" "still" "I", Cond.fieldLink RX3 65 "StickRests$Stick" "shaking" "I", Cond.fieldLink RX3 71 "StickRests$Stick" "letGo" "I", Cond.fieldLink RX3 74 "StickRests$Stick" "drifted" "I", Cond.fieldLink RX3 77 "StickRests$Stick" "down" "I", Cond.fieldLink RX3 80 "StickRests$Stick" "tellingSamples" "I", Cond.fieldLink RX3 83 "StickRests$Stick" "shakenInZone" "I", Cond.methodLink RL 14 yX4_of, Cond.instanceMethod yX4_of, Cond.selects RX4 yX4_of yX4_of, Cond.code yX4_of cX4_of 3 (some .int), Cond.methodLink RX4 83 yX3_aboutX, Cond.instanceMethod yX3_aboutX, Cond.selects RX3 yX3_aboutX yX3_aboutX, Cond.code yX3_aboutX cX3_aboutX 2 (some .int), Cond.fieldLink RX3 50 "StickRests$Stick" "tellX" "I", Cond.fieldLink RX3 56 "StickRests$Stick" "latestX" "I", Cond.methodLink RX3 164 yX3_about, Cond.instanceMethod yX3_about, Cond.selects RX3 yX3_about yX3_about]
def wsL_law_r5 : List Cond := [Cond.code yX3_about cX3_about 5 (some .int), Cond.methodLink RX4 86 yX3_aboutY, Cond.instanceMethod yX3_aboutY, Cond.selects RX3 yX3_aboutY yX3_aboutY, Cond.code yX3_aboutY cX3_aboutY 2 (some .int), Cond.fieldLink RX3 53 "StickRests$Stick" "tellY" "I", Cond.fieldLink RX3 59 "StickRests$Stick" "latestY" "I", Cond.methodLink RL 18 yL_size, Cond.static yL_size, Cond.code yL_size cL_size 1 (some .int), Cond.methodLink RL 23 yX4_direction, Cond.instanceMethod yX4_direction, Cond.selects RX4 yX4_direction yX4_direction, Cond.code yX4_direction cX4_direction 3 (some .int), Cond.methodLink RX4 93 yX0_about, Cond.instanceMethod yX0_about, Cond.selects RX0 yX0_about yX0_about, Cond.code yX0_about cX0_about 4 (some .int), Cond.fieldLink RX0 31 "StickRests$Directions" "unlike" "I", Cond.methodLink RL 29 yX4_wouldTell, Cond.instanceMethod yX4_wouldTell, Cond.selects RX4 yX4_wouldTell yX4_wouldTell, Cond.code yX4_wouldTell cX4_wouldTell 3 (some .int), Cond.methodLink RX4 108 yX4_isSample]
def wsL_law_r6 : List Cond := [Cond.static yX4_isSample, Cond.code yX4_isSample cX4_isSample 2 (some .boolean), Cond.methodLink RX4 112 yX3_tellingAt, Cond.instanceMethod yX3_tellingAt, Cond.selects RX3 yX3_tellingAt yX3_tellingAt, Cond.code yX3_tellingAt cX3_tellingAt 7 (some .int), Cond.methodLink RX3 86 Lib.Math.abs.name, Cond.static Lib.Math.abs.name, Cond.initialized "java/lang/Math", Cond.code Lib.Math.abs.name Lib.Math.abs.code 1 (some .int), Cond.methodLink RX3 114 yX3_farthestOff, Cond.instanceMethod yX3_farthestOff, Cond.selects RX3 yX3_farthestOff yX3_farthestOff, Cond.code yX3_farthestOff cX3_farthestOff 3 (some .int), Cond.methodLink RX3 110 Lib.Math.max.name, Cond.static Lib.Math.max.name, Cond.code Lib.Math.max.name Lib.Math.max.code 2 (some .int), Cond.methodLink RX3 103 yX3_restPlaceX, Cond.instanceMethod yX3_restPlaceX, Cond.selects RX3 yX3_restPlaceX yX3_restPlaceX, Cond.code yX3_restPlaceX cX3_restPlaceX 1 (some .int), Cond.methodLink RX3 107 yX3_restPlaceY, Cond.instanceMethod yX3_restPlaceY, Cond.selects RX3 yX3_restPlaceY yX3_restPlaceY]
def wsL_law_r7 : List Cond := [Cond.code yX3_restPlaceY cX3_restPlaceY 1 (some .int), Cond.methodLink RX3 120 yX3_wouldDrift, Cond.instanceMethod yX3_wouldDrift, Cond.selects RX3 yX3_wouldDrift yX3_wouldDrift, Cond.code yX3_wouldDrift cX3_wouldDrift 4 (some .boolean), Cond.methodLink RX3 117 yX3_stillWith, Cond.instanceMethod yX3_stillWith, Cond.selects RX3 yX3_stillWith yX3_stillWith, Cond.code yX3_stillWith cX3_stillWith 4 (some .int), Cond.static yX4_packed, Cond.code yX4_packed cX4_packed 2 (some .int), Cond.methodLink RX3 126 yX3_leanOf, Cond.instanceMethod yX3_leanOf, Cond.selects RX3 yX3_leanOf yX3_leanOf, Cond.code yX3_leanOf cX3_leanOf 4 (some .int), Cond.methodLink RX3 132 Lib.Math.min.name, Cond.static Lib.Math.min.name, Cond.code Lib.Math.min.name Lib.Math.min.code 2 (some .int), Cond.static yX4_quotient, Cond.code yX4_quotient cX4_quotient 2 (some .int), Cond.methodLink RL 35 yX4_learnedIn, Cond.instanceMethod yX4_learnedIn, Cond.selects RX4 yX4_learnedIn yX4_learnedIn, Cond.code yX4_learnedIn cX4_learnedIn 4 (some .int)]
def wsL_law_r8 : List Cond := [Cond.methodLink RX4 115 yX3_becomeLike, Cond.instanceMethod yX3_becomeLike, Cond.selects RX3 yX3_becomeLike yX3_becomeLike, Cond.code yX3_becomeLike cX3_becomeLike 2 none, Cond.methodLink RX3 40 arraycopyName, Cond.native arraycopyName, Cond.static arraycopyName, Cond.initialized "java/lang/System", Cond.methodLink RX3 46 yX0_becomeLike, Cond.instanceMethod yX0_becomeLike, Cond.selects RX0 yX0_becomeLike yX0_becomeLike, Cond.code yX0_becomeLike cX0_becomeLike 2 none, Cond.methodLink RX0 25 arraycopyName, Cond.fieldLink RX0 34 "StickRests$Directions" "run" "I", Cond.methodLink RX4 118 yX3_isOffByNothing, Cond.instanceMethod yX3_isOffByNothing, Cond.selects RX3 yX3_isOffByNothing yX3_isOffByNothing, Cond.code yX3_isOffByNothing cX3_isOffByNothing 3 (some .boolean), Cond.methodLink RX4 59 yX3_take, Cond.instanceMethod yX3_take, Cond.selects RX3 yX3_take yX3_take, Cond.code yX3_take cX3_take 6 none, Cond.methodLink RX3 135 yX3_tellingAt, Cond.methodLink RX3 138 yX3_comeToRest]
def wsL_law_r9 : List Cond := [Cond.instanceMethod yX3_comeToRest, Cond.selects RX3 yX3_comeToRest yX3_comeToRest, Cond.code yX3_comeToRest cX3_comeToRest 3 none, Cond.methodLink RX3 149 yX3_tellsSomething, Cond.instanceMethod yX3_tellsSomething, Cond.selects RX3 yX3_tellsSomething yX3_tellsSomething, Cond.code yX3_tellsSomething cX3_tellsSomething 1 (some .boolean), Cond.methodLink RX3 161 yX3_fitZone, Cond.instanceMethod yX3_fitZone, Cond.selects RX3 yX3_fitZone yX3_fitZone, Cond.code yX3_fitZone cX3_fitZone 2 none, Cond.methodLink RX3 142 yX3_driftTo, Cond.instanceMethod yX3_driftTo, Cond.selects RX3 yX3_driftTo yX3_driftTo, Cond.code yX3_driftTo cX3_driftTo 3 none, Cond.methodLink RX3 145 yX3_tell, Cond.instanceMethod yX3_tell, Cond.selects RX3 yX3_tell yX3_tell, Cond.code yX3_tell cX3_tell 2 none, Cond.methodLink RX3 153 yJ6_compare_7cf53, Cond.static yJ6_compare_7cf53, Cond.initialized RJ6, Cond.code yJ6_compare_7cf53 cJ6_compare_7cf53 2 (some .int), Cond.methodLink RX3 158 yX0_note]
def wsL_law_r10 : List Cond := [Cond.instanceMethod yX0_note, Cond.selects RX0 yX0_note yX0_note, Cond.code yX0_note cX0_note 4 none, Cond.methodLink RX0 37 Lib.Math.max.name, Cond.methodLink RL 80 yX4_undo, Cond.instanceMethod yX4_undo, Cond.selects RX4 yX4_undo yX4_undo, Cond.code yX4_undo cX4_undo 1 (some .int), Cond.methodLink RX4 176 yX1_takeBack, Cond.instanceMethod yX1_takeBack, Cond.selects RX1 yX1_takeBack yX1_takeBack, Cond.code yX1_takeBack cX1_takeBack 4 (some .int), Cond.fieldLink RX1 27 "StickRests$History" "size" "I", Cond.methodLink RX1 30 yX1_placeOf, Cond.instanceMethod yX1_placeOf, Cond.selects RX1 yX1_placeOf yX1_placeOf, Cond.code yX1_placeOf cX1_placeOf 2 (some .int), Cond.fieldLink RX1 17 "StickRests$History" "oldest" "I", Cond.methodLink RX1 21 yJ9_floorMod_7cf53, Cond.static yJ9_floorMod_7cf53, Cond.initialized RJ9, Cond.code yJ9_floorMod_7cf53 cJ9_floorMod_7cf53 3 (some .int), Cond.methodLink RX1 35 yX3_becomeLike, Cond.methodLink RL 83 yL_cell]
def wsL_law_r11 : List Cond := [Cond.static yL_cell, Cond.code yL_cell cL_cell 2 (some .int), Cond.methodLink RL 87 yL_does, Cond.static yL_does, Cond.code yL_does cL_does 20 (some .boolean), Cond.methodLink RL 51 yL_low, Cond.static yL_low, Cond.code yL_low cL_low 2 (some .int), Cond.constant RL 7 (2147483647), Cond.methodLink RL 54 yX4_set, Cond.instanceMethod yX4_set, Cond.selects RX4 yX4_set yX4_set, Cond.code yX4_set cX4_set 3 (some .int), Cond.fieldLink RX4 37 "StickRests" "LEAST" "[I", Cond.fieldLink RX4 41 "StickRests" "MOST" "[I", Cond.methodLink RX4 44 yX1_keep, Cond.instanceMethod yX1_keep, Cond.selects RX1 yX1_keep yX1_keep, Cond.code yX1_keep cX1_keep 4 none, Cond.methodLink RX1 34 yX3_init, Cond.methodLink RX4 48 yX3_changeSetting, Cond.instanceMethod yX3_changeSetting, Cond.selects RX3 yX3_changeSetting yX3_changeSetting, Cond.code yX3_changeSetting cX3_changeSetting 4 (some .int)]
def wsL_law_r12 : List Cond := [Cond.methodLink RL 57 yL_isSample, Cond.static yL_isSample, Cond.code yL_isSample cL_isSample 22 (some .boolean), Cond.methodLink RL 26 yL_greater, Cond.static yL_greater, Cond.code yL_greater cL_greater 2 (some .int), Cond.methodLink RL 32 yX4_sample, Cond.instanceMethod yX4_sample, Cond.selects RX4 yX4_sample yX4_sample, Cond.code yX4_sample cX4_sample 3 (some .int), Cond.methodLink RX4 52 yX4_takeAlike, Cond.instanceMethod yX4_takeAlike, Cond.selects RX4 yX4_takeAlike yX4_takeAlike, Cond.code yX4_takeAlike cX4_takeAlike 6 (some .int), Cond.methodLink RX4 56 yX3_refusalOfSamples, Cond.instanceMethod yX3_refusalOfSamples, Cond.selects RX3 yX3_refusalOfSamples yX3_refusalOfSamples, Cond.code yX3_refusalOfSamples cX3_refusalOfSamples 4 (some .int), Cond.methodLink RX4 63 yX3_telling, Cond.instanceMethod yX3_telling, Cond.selects RX3 yX3_telling yX3_telling, Cond.code yX3_telling cX3_telling 1 (some .int), Cond.methodLink RL 61 yX4_press, Cond.instanceMethod yX4_press]
def wsL_law_r13 : List Cond := [Cond.selects RX4 yX4_press yX4_press, Cond.code yX4_press cX4_press 3 (some .int), Cond.methodLink RX4 67 yX3_refusalOfPress, Cond.instanceMethod yX3_refusalOfPress, Cond.selects RX3 yX3_refusalOfPress yX3_refusalOfPress, Cond.code yX3_refusalOfPress cX3_refusalOfPress 2 (some .int), Cond.methodLink RX3 92 yX3_isButton, Cond.static yX3_isButton, Cond.code yX3_isButton cX3_isButton 1 (some .boolean), Cond.methodLink RX3 96 yX3_isDown, Cond.instanceMethod yX3_isDown, Cond.selects RX3 yX3_isDown yX3_isDown, Cond.code yX3_isDown cX3_isDown 2 (some .boolean), Cond.methodLink RX4 71 yX3_pushDown, Cond.instanceMethod yX3_pushDown, Cond.selects RX3 yX3_pushDown yX3_pushDown, Cond.code yX3_pushDown cX3_pushDown 2 (some .int), Cond.methodLink RL 64 yX4_letUp, Cond.instanceMethod yX4_letUp, Cond.selects RX4 yX4_letUp yX4_letUp, Cond.code yX4_letUp cX4_letUp 3 (some .int), Cond.methodLink RX4 74 yX3_refusalOfLetUp, Cond.instanceMethod yX3_refusalOfLetUp, Cond.selects RX3 yX3_refusalOfLetUp yX3_refusalOfLetUp]
def wsL_law_r14 : List Cond := [Cond.code yX3_refusalOfLetUp cX3_refusalOfLetUp 2 (some .int), Cond.methodLink RX4 77 yX3_release, Cond.instanceMethod yX3_release, Cond.selects RX3 yX3_release yX3_release, Cond.code yX3_release cX3_release 2 (some .int), Cond.methodLink RL 67 yX4_reset, Cond.instanceMethod yX4_reset, Cond.selects RX4 yX4_reset yX4_reset, Cond.code yX4_reset cX4_reset 1 (some .int), Cond.methodLink RX4 80 yX3_toMiddle, Cond.instanceMethod yX3_toMiddle, Cond.selects RX3 yX3_toMiddle yX3_toMiddle, Cond.code yX3_toMiddle cX3_toMiddle 2 (some .int), Cond.methodLink RL 71 yX4_hold, Cond.instanceMethod yX4_hold, Cond.selects RX4 yX4_hold yX4_hold, Cond.code yX4_hold cX4_hold 4 (some .int), Cond.methodLink RL 90 yL_isIn, Cond.static yL_isIn, Cond.code yL_isIn cL_isIn 13 (some .boolean), Cond.methodLink RL 38 yX4_driftsIn, Cond.instanceMethod yX4_driftsIn, Cond.selects RX4 yX4_driftsIn yX4_driftsIn, Cond.code yX4_driftsIn cX4_driftsIn 4 (some .int)]
def wsL_law_r15 : List Cond := [Cond.methodLink RX4 130 yX3_wouldDrift, Cond.methodLink RL 41 yX4_save, Cond.instanceMethod yX4_save, Cond.selects RX4 yX4_save yX4_save, Cond.code yX4_save cX4_save 3 (some .int), Cond.methodLink RL 44 yX4_restore, Cond.instanceMethod yX4_restore, Cond.selects RX4 yX4_restore yX4_restore, Cond.code yX4_restore cX4_restore 3 (some .int), Cond.methodLink RL 93 yL_isEdge, Cond.static yL_isEdge, Cond.code yL_isEdge cL_isEdge 10 (some .boolean), Cond.methodLink RL 47 yX4_edge, Cond.instanceMethod yX4_edge, Cond.selects RX4 yX4_edge yX4_edge, Cond.code yX4_edge cX4_edge 7 (some .int), Cond.methodLink RX4 121 yX3_restPlaceX, Cond.methodLink RX4 124 yX3_restPlaceY, Cond.methodLink RX4 127 yX4_packed]
def wsL_law : List Cond := (wsL_law_r1 ++ (wsL_law_r2 ++ (wsL_law_r3 ++ (wsL_law_r4 ++ (wsL_law_r5 ++ (wsL_law_r6 ++ (wsL_law_r7 ++ (wsL_law_r8 ++ (wsL_law_r9 ++ (wsL_law_r10 ++ (wsL_law_r11 ++ (wsL_law_r12 ++ (wsL_law_r13 ++ (wsL_law_r14 ++ wsL_law_r15)))))))))))))) ++ wsX40 ++ wsX30 ++ wsX20 ++ wsX10 ++ wsX00 ++ ([] : List Cond)
abbrev vwCl : List vw_C := [(RX0, TX0, 6), (RX1, TX1, 3), (RX2, TX2, 7), (RX3, TX3, 17), (RX4, TX4, 5)]
end
section
theorem mem_r {big : List Cond} (ws : List Cond) (ps : List Nat) (hp : ws = ps.filterMap (fun i => big[i]?)) : ∀ w ∈ ws, w ∈ big := by
  intro w hw
  rw [hp] at hw
  obtain ⟨i, -, hi⟩ := List.mem_filterMap.mp hw
  exact List.mem_of_getElem? hi
set_option maxRecDepth 20000 in
theorem lin_wsL_law_r1 : ∀ w ∈ wsL_law_r1, w ∈ lw_tbl := mem_r _ [21, 22, 13, 412, 23, 24, 25, 26, 27, 28, 29, 30, 14, 168, 169, 125, 126, 16, 170, 149, 150, 17, 171, 172] (by decide +kernel)
set_option maxRecDepth 20000 in
theorem lin_wsL_law_r2 : ∀ w ∈ wsL_law_r2, w ∈ lw_tbl := mem_r _ [31, 32, 33, 34, 37, 38, 39, 40, 41, 43, 71, 44, 45, 15, 72, 74, 75, 76, 46, 47, 48, 49, 70, 50] (by decide +kernel)
set_option maxRecDepth 20000 in
theorem lin_wsL_law_r3 : ∀ w ∈ wsL_law_r3, w ∈ lw_tbl := mem_r _ [51, 52, 55, 127, 128, 129, 130, 148, 131, 151, 152, 153, 154, 155, 157, 387, 388, 12, 389, 342, 343, 344, 345, 346] (by decide +kernel)
set_option maxRecDepth 20000 in
theorem lin_wsL_law_r4 : ∀ w ∈ wsL_law_r4, w ∈ lw_tbl := mem_r _ [347, 348, 349, 83, 81, 82, 85, 86, 87, 88, 89, 318, 319, 320, 321, 322, 323, 324, 325, 77, 79, 326, 328, 10] (by decide +kernel)
set_option maxRecDepth 20000 in
theorem lin_wsL_law_r5 : ∀ w ∈ wsL_law_r5, w ∈ lw_tbl := mem_r _ [329, 330, 331, 332, 333, 78, 80, 390, 391, 392, 334, 335, 336, 337, 338, 339, 340, 341, 53, 350, 351, 352, 353, 354] (by decide +kernel)
end
section
set_option maxRecDepth 20000 in
theorem lin_wsL_law_r6 : ∀ w ∈ wsL_law_r6, w ∈ lw_tbl := mem_r _ [233, 234, 355, 240, 241, 242, 251, 252, 18, 253, 243, 245, 2, 246, 258, 259, 260, 247, 248, 249, 250, 254, 255, 256] (by decide +kernel)
set_option maxRecDepth 20000 in
theorem lin_wsL_law_r7 : ∀ w ∈ wsL_law_r7, w ∈ lw_tbl := mem_r _ [257, 261, 262, 263, 264, 265, 267, 3, 268, 270, 271, 272, 274, 4, 275, 279, 280, 281, 277, 278, 356, 357, 358, 359] (by decide +kernel)
set_option maxRecDepth 20000 in
theorem lin_wsL_law_r8 : ∀ w ∈ wsL_law_r8, w ∈ lw_tbl := mem_r _ [360, 205, 206, 207, 208, 210, 209, 19, 211, 212, 213, 214, 215, 56, 361, 362, 363, 364, 235, 236, 237, 238, 239, 282] (by decide +kernel)
set_option maxRecDepth 20000 in
theorem lin_wsL_law_r9 : ∀ w ∈ wsL_law_r9, w ∈ lw_tbl := mem_r _ [284, 5, 285, 286, 288, 6, 289, 290, 292, 7, 293, 294, 296, 8, 297, 298, 300, 9, 301, 302, 303, 20, 304, 305] (by decide +kernel)
set_option maxRecDepth 20000 in
theorem lin_wsL_law_r10 : ∀ w ∈ wsL_law_r10, w ∈ lw_tbl := mem_r _ [306, 307, 308, 309, 372, 373, 374, 375, 376, 377, 378, 379, 159, 196, 198, 0, 199, 158, 200, 201, 18, 202, 204, 380] (by decide +kernel)
end
section
set_option maxRecDepth 20000 in
theorem lin_wsL_law_r11 : ∀ w ∈ wsL_law_r11, w ∈ lw_tbl := List.forall_mem_cons.mpr ⟨List.mem_of_getElem? (i := 381) (by decide +kernel), List.forall_mem_cons.mpr ⟨List.mem_of_getElem? (i := 382) (by decide +kernel), List.forall_mem_cons.mpr ⟨List.mem_of_getElem? (i := 413) (by decide +kernel), List.forall_mem_cons.mpr ⟨List.mem_of_getElem? (i := 414) (by decide +kernel), List.forall_mem_cons.mpr ⟨List.mem_of_getElem? (i := 415) (rfl), List.forall_mem_cons.mpr ⟨List.mem_of_getElem? (i := 383) (by decide +kernel), List.forall_mem_cons.mpr ⟨List.mem_of_getElem? (i := 384) (by decide +kernel), List.forall_mem_cons.mpr ⟨List.mem_of_getElem? (i := 385) (by decide +kernel), List.forall_mem_cons.mpr ⟨List.mem_of_getElem? (i := 386) (by decide +kernel), List.forall_mem_cons.mpr ⟨List.mem_of_getElem? (i := 184) (by decide +kernel), List.forall_mem_cons.mpr ⟨List.mem_of_getElem? (i := 185) (by decide +kernel), List.forall_mem_cons.mpr ⟨List.mem_of_getElem? (i := 186) (by decide +kernel), List.forall_mem_cons.mpr ⟨List.mem_of_getElem? (i := 187) (by decide +kernel), List.forall_mem_cons.mpr ⟨List.mem_of_getElem? (i := 188) (by decide +kernel), List.forall_mem_cons.mpr ⟨List.mem_of_getElem? (i := 190) (by decide +kernel), List.forall_mem_cons.mpr ⟨List.mem_of_getElem? (i := 192) (by decide +kernel), List.forall_mem_cons.mpr ⟨List.mem_of_getElem? (i := 193) (by decide +kernel), List.forall_mem_cons.mpr ⟨List.mem_of_getElem? (i := 194) (by decide +kernel), List.forall_mem_cons.mpr ⟨List.mem_of_getElem? (i := 195) (by decide +kernel), List.forall_mem_cons.mpr ⟨List.mem_of_getElem? (i := 203) (by decide +kernel), List.forall_mem_cons.mpr ⟨List.mem_of_getElem? (i := 216) (by decide +kernel), List.forall_mem_cons.mpr ⟨List.mem_of_getElem? (i := 217) (by decide +kernel), List.forall_mem_cons.mpr ⟨List.mem_of_getElem? (i := 218) (by decide +kernel), List.forall_mem_cons.mpr ⟨List.mem_of_getElem? (i := 219) (by decide +kernel), fun _ h => absurd h List.not_mem_nil⟩⟩⟩⟩⟩⟩⟩⟩⟩⟩⟩⟩⟩⟩⟩⟩⟩⟩⟩⟩⟩⟩⟩⟩
set_option maxRecDepth 20000 in
theorem lin_wsL_law_r12 : ∀ w ∈ wsL_law_r12, w ∈ lw_tbl := List.forall_mem_cons.mpr ⟨List.mem_of_getElem? (i := 416) (by decide +kernel), List.forall_mem_cons.mpr ⟨List.mem_of_getElem? (i := 417) (by decide +kernel), List.forall_mem_cons.mpr ⟨List.mem_of_getElem? (i := 418) (rfl), List.forall_mem_cons.mpr ⟨List.mem_of_getElem? (i := 419) (by decide +kernel), List.forall_mem_cons.mpr ⟨List.mem_of_getElem? (i := 420) (by decide +kernel), List.forall_mem_cons.mpr ⟨List.mem_of_getElem? (i := 421) (by decide +kernel), List.forall_mem_cons.mpr ⟨List.mem_of_getElem? (i := 220) (by decide +kernel), List.forall_mem_cons.mpr ⟨List.mem_of_getElem? (i := 221) (by decide +kernel), List.forall_mem_cons.mpr ⟨List.mem_of_getElem? (i := 222) (by decide +kernel), List.forall_mem_cons.mpr ⟨List.mem_of_getElem? (i := 223) (by decide +kernel), List.forall_mem_cons.mpr ⟨List.mem_of_getElem? (i := 224) (by decide +kernel), List.forall_mem_cons.mpr ⟨List.mem_of_getElem? (i := 226) (by decide +kernel), List.forall_mem_cons.mpr ⟨List.mem_of_getElem? (i := 1) (by decide +kernel), List.forall_mem_cons.mpr ⟨List.mem_of_getElem? (i := 227) (by decide +kernel), List.forall_mem_cons.mpr ⟨List.mem_of_getElem? (i := 228) (by decide +kernel), List.forall_mem_cons.mpr ⟨List.mem_of_getElem? (i := 229) (by decide +kernel), List.forall_mem_cons.mpr ⟨List.mem_of_getElem? (i := 230) (by decide +kernel), List.forall_mem_cons.mpr ⟨List.mem_of_getElem? (i := 231) (by decide +kernel), List.forall_mem_cons.mpr ⟨List.mem_of_getElem? (i := 310) (by decide +kernel), List.forall_mem_cons.mpr ⟨List.mem_of_getElem? (i := 311) (by decide +kernel), List.forall_mem_cons.mpr ⟨List.mem_of_getElem? (i := 312) (by decide +kernel), List.forall_mem_cons.mpr ⟨List.mem_of_getElem? (i := 313) (by decide +kernel), List.forall_mem_cons.mpr ⟨List.mem_of_getElem? (i := 422) (by decide +kernel), List.forall_mem_cons.mpr ⟨List.mem_of_getElem? (i := 423) (by decide +kernel), fun _ h => absurd h List.not_mem_nil⟩⟩⟩⟩⟩⟩⟩⟩⟩⟩⟩⟩⟩⟩⟩⟩⟩⟩⟩⟩⟩⟩⟩⟩
set_option maxRecDepth 20000 in
theorem lin_wsL_law_r13 : ∀ w ∈ wsL_law_r13, w ∈ lw_tbl := mem_r _ [424, 425, 426, 427, 428, 429, 430, 431, 432, 433, 435, 11, 436, 437, 438, 439, 440, 441, 442, 443, 444, 445, 446, 447] (by decide +kernel)
set_option maxRecDepth 20000 in
theorem lin_wsL_law_r14 : ∀ w ∈ wsL_law_r14, w ∈ lw_tbl := mem_r _ [448, 449, 450, 451, 452, 453, 454, 455, 456, 457, 458, 459, 460, 314, 315, 316, 317, 393, 394, 395, 396, 397, 398, 399] (by decide +kernel)
set_option maxRecDepth 20000 in
theorem lin_wsL_law_r15 : ∀ w ∈ wsL_law_r15, w ∈ lw_tbl := mem_r _ [400, 401, 402, 403, 404, 405, 406, 407, 408, 409, 410, 411, 365, 366, 367, 368, 369, 370, 371] (by decide +kernel)
set_option maxRecDepth 20000 in
theorem lin_wsX40 : ∀ w ∈ wsX40, w ∈ lw_tbl := mem_r _ [173, 175, 177, 179, 181] (by decide +kernel)
set_option maxRecDepth 20000 in
theorem lin_wsX30 : ∀ w ∈ wsX30, w ∈ lw_tbl := mem_r _ [90, 92, 94, 96, 98, 100, 102, 104, 106, 108, 110, 112, 114, 116, 118, 120, 122] (by decide +kernel)
set_option maxRecDepth 20000 in
theorem lin_wsX20 : ∀ w ∈ wsX20, w ∈ lw_tbl := mem_r _ [133, 135, 137, 139, 141, 143, 145] (by decide +kernel)
set_option maxRecDepth 20000 in
theorem lin_wsX10 : ∀ w ∈ wsX10, w ∈ lw_tbl := mem_r _ [161, 163, 165] (by decide +kernel)
set_option maxRecDepth 20000 in
theorem lin_wsX00 : ∀ w ∈ wsX00, w ∈ lw_tbl := mem_r _ [57, 59, 61, 63, 65, 67] (by decide +kernel)
theorem lin_rs : ∀ w ∈ (wsL_law_r1 ++ (wsL_law_r2 ++ (wsL_law_r3 ++ (wsL_law_r4 ++ (wsL_law_r5 ++ (wsL_law_r6 ++ (wsL_law_r7 ++ (wsL_law_r8 ++ (wsL_law_r9 ++ (wsL_law_r10 ++ (wsL_law_r11 ++ (wsL_law_r12 ++ (wsL_law_r13 ++ (wsL_law_r14 ++ (wsL_law_r15))))))))))))))), w ∈ lw_tbl := List.forall_mem_append.mpr ⟨lin_wsL_law_r1, List.forall_mem_append.mpr ⟨lin_wsL_law_r2, List.forall_mem_append.mpr ⟨lin_wsL_law_r3, List.forall_mem_append.mpr ⟨lin_wsL_law_r4, List.forall_mem_append.mpr ⟨lin_wsL_law_r5, List.forall_mem_append.mpr ⟨lin_wsL_law_r6, List.forall_mem_append.mpr ⟨lin_wsL_law_r7, List.forall_mem_append.mpr ⟨lin_wsL_law_r8, List.forall_mem_append.mpr ⟨lin_wsL_law_r9, List.forall_mem_append.mpr ⟨lin_wsL_law_r10, List.forall_mem_append.mpr ⟨lin_wsL_law_r11, List.forall_mem_append.mpr ⟨lin_wsL_law_r12, List.forall_mem_append.mpr ⟨lin_wsL_law_r13, List.forall_mem_append.mpr ⟨lin_wsL_law_r14, lin_wsL_law_r15⟩⟩⟩⟩⟩⟩⟩⟩⟩⟩⟩⟩⟩⟩
theorem wsL_law_in : ∀ w ∈ wsL_law, w ∈ lw_tbl := List.forall_mem_append.mpr ⟨List.forall_mem_append.mpr ⟨List.forall_mem_append.mpr ⟨List.forall_mem_append.mpr ⟨List.forall_mem_append.mpr ⟨List.forall_mem_append.mpr ⟨lin_rs, lin_wsX40⟩, lin_wsX30⟩, lin_wsX20⟩, lin_wsX10⟩, lin_wsX00⟩, fun _ h => absurd h List.not_mem_nil⟩
theorem inlX0 : ∀ w ∈ wsX00, w ∈ wsL_law := fun _ h => List.mem_append_left _ (List.mem_append_right _ h)
theorem inlX1 : ∀ w ∈ wsX10, w ∈ wsL_law := fun _ h => List.mem_append_left _ (List.mem_append_left _ (List.mem_append_right _ h))
theorem inlX2 : ∀ w ∈ wsX20, w ∈ wsL_law := fun _ h => List.mem_append_left _ (List.mem_append_left _ (List.mem_append_left _ (List.mem_append_right _ h)))
theorem inlX3 : ∀ w ∈ wsX30, w ∈ wsL_law := fun _ h => List.mem_append_left _ (List.mem_append_left _ (List.mem_append_left _ (List.mem_append_left _ (List.mem_append_right _ h))))
theorem inlX4 : ∀ w ∈ wsX40, w ∈ wsL_law := fun _ h => List.mem_append_left _ (List.mem_append_left _ (List.mem_append_left _ (List.mem_append_left _ (List.mem_append_left _ (List.mem_append_right _ h)))))
end
section
theorem win_wsL_law_r1 : ∀ w ∈ wsL_law_r1, w ∈ wsL_law := fun w h => List.mem_append_left _ (List.mem_append_left _ (List.mem_append_left _ (List.mem_append_left _ (List.mem_append_left _ (List.mem_append_left _ (List.mem_append_left _ h))))))
theorem win_wsL_law_r2 : ∀ w ∈ wsL_law_r2, w ∈ wsL_law := fun w h => List.mem_append_left _ (List.mem_append_left _ (List.mem_append_left _ (List.mem_append_left _ (List.mem_append_left _ (List.mem_append_left _ (List.mem_append_right _ (List.mem_append_left _ h)))))))
theorem win_wsL_law_r3 : ∀ w ∈ wsL_law_r3, w ∈ wsL_law := fun w h => List.mem_append_left _ (List.mem_append_left _ (List.mem_append_left _ (List.mem_append_left _ (List.mem_append_left _ (List.mem_append_left _ (List.mem_append_right _ (List.mem_append_right _ (List.mem_append_left _ h))))))))
theorem win_wsL_law_r4 : ∀ w ∈ wsL_law_r4, w ∈ wsL_law := fun w h => List.mem_append_left _ (List.mem_append_left _ (List.mem_append_left _ (List.mem_append_left _ (List.mem_append_left _ (List.mem_append_left _ (List.mem_append_right _ (List.mem_append_right _ (List.mem_append_right _ (List.mem_append_left _ h)))))))))
theorem win_wsL_law_r5 : ∀ w ∈ wsL_law_r5, w ∈ wsL_law := fun w h => List.mem_append_left _ (List.mem_append_left _ (List.mem_append_left _ (List.mem_append_left _ (List.mem_append_left _ (List.mem_append_left _ (List.mem_append_right _ (List.mem_append_right _ (List.mem_append_right _ (List.mem_append_right _ (List.mem_append_left _ h))))))))))
theorem win_wsL_law_r6 : ∀ w ∈ wsL_law_r6, w ∈ wsL_law := fun w h => List.mem_append_left _ (List.mem_append_left _ (List.mem_append_left _ (List.mem_append_left _ (List.mem_append_left _ (List.mem_append_left _ (List.mem_append_right _ (List.mem_append_right _ (List.mem_append_right _ (List.mem_append_right _ (List.mem_append_right _ (List.mem_append_left _ h)))))))))))
theorem win_wsL_law_r7 : ∀ w ∈ wsL_law_r7, w ∈ wsL_law := fun w h => List.mem_append_left _ (List.mem_append_left _ (List.mem_append_left _ (List.mem_append_left _ (List.mem_append_left _ (List.mem_append_left _ (List.mem_append_right _ (List.mem_append_right _ (List.mem_append_right _ (List.mem_append_right _ (List.mem_append_right _ (List.mem_append_right _ (List.mem_append_left _ h))))))))))))
theorem win_wsL_law_r8 : ∀ w ∈ wsL_law_r8, w ∈ wsL_law := fun w h => List.mem_append_left _ (List.mem_append_left _ (List.mem_append_left _ (List.mem_append_left _ (List.mem_append_left _ (List.mem_append_left _ (List.mem_append_right _ (List.mem_append_right _ (List.mem_append_right _ (List.mem_append_right _ (List.mem_append_right _ (List.mem_append_right _ (List.mem_append_right _ (List.mem_append_left _ h)))))))))))))
theorem win_wsL_law_r9 : ∀ w ∈ wsL_law_r9, w ∈ wsL_law := fun w h => List.mem_append_left _ (List.mem_append_left _ (List.mem_append_left _ (List.mem_append_left _ (List.mem_append_left _ (List.mem_append_left _ (List.mem_append_right _ (List.mem_append_right _ (List.mem_append_right _ (List.mem_append_right _ (List.mem_append_right _ (List.mem_append_right _ (List.mem_append_right _ (List.mem_append_right _ (List.mem_append_left _ h))))))))))))))
theorem win_wsL_law_r10 : ∀ w ∈ wsL_law_r10, w ∈ wsL_law := fun w h => List.mem_append_left _ (List.mem_append_left _ (List.mem_append_left _ (List.mem_append_left _ (List.mem_append_left _ (List.mem_append_left _ (List.mem_append_right _ (List.mem_append_right _ (List.mem_append_right _ (List.mem_append_right _ (List.mem_append_right _ (List.mem_append_right _ (List.mem_append_right _ (List.mem_append_right _ (List.mem_append_right _ (List.mem_append_left _ h)))))))))))))))
theorem win_wsL_law_r11 : ∀ w ∈ wsL_law_r11, w ∈ wsL_law := fun w h => List.mem_append_left _ (List.mem_append_left _ (List.mem_append_left _ (List.mem_append_left _ (List.mem_append_left _ (List.mem_append_left _ (List.mem_append_right _ (List.mem_append_right _ (List.mem_append_right _ (List.mem_append_right _ (List.mem_append_right _ (List.mem_append_right _ (List.mem_append_right _ (List.mem_append_right _ (List.mem_append_right _ (List.mem_append_right _ (List.mem_append_left _ h))))))))))))))))
theorem win_wsL_law_r12 : ∀ w ∈ wsL_law_r12, w ∈ wsL_law := fun w h => List.mem_append_left _ (List.mem_append_left _ (List.mem_append_left _ (List.mem_append_left _ (List.mem_append_left _ (List.mem_append_left _ (List.mem_append_right _ (List.mem_append_right _ (List.mem_append_right _ (List.mem_append_right _ (List.mem_append_right _ (List.mem_append_right _ (List.mem_append_right _ (List.mem_append_right _ (List.mem_append_right _ (List.mem_append_right _ (List.mem_append_right _ (List.mem_append_left _ h)))))))))))))))))
theorem win_wsL_law_r13 : ∀ w ∈ wsL_law_r13, w ∈ wsL_law := fun w h => List.mem_append_left _ (List.mem_append_left _ (List.mem_append_left _ (List.mem_append_left _ (List.mem_append_left _ (List.mem_append_left _ (List.mem_append_right _ (List.mem_append_right _ (List.mem_append_right _ (List.mem_append_right _ (List.mem_append_right _ (List.mem_append_right _ (List.mem_append_right _ (List.mem_append_right _ (List.mem_append_right _ (List.mem_append_right _ (List.mem_append_right _ (List.mem_append_right _ (List.mem_append_left _ h))))))))))))))))))
theorem win_wsL_law_r14 : ∀ w ∈ wsL_law_r14, w ∈ wsL_law := fun w h => List.mem_append_left _ (List.mem_append_left _ (List.mem_append_left _ (List.mem_append_left _ (List.mem_append_left _ (List.mem_append_left _ (List.mem_append_right _ (List.mem_append_right _ (List.mem_append_right _ (List.mem_append_right _ (List.mem_append_right _ (List.mem_append_right _ (List.mem_append_right _ (List.mem_append_right _ (List.mem_append_right _ (List.mem_append_right _ (List.mem_append_right _ (List.mem_append_right _ (List.mem_append_right _ (List.mem_append_left _ h)))))))))))))))))))
theorem win_wsL_law_r15 : ∀ w ∈ wsL_law_r15, w ∈ wsL_law := fun w h => List.mem_append_left _ (List.mem_append_left _ (List.mem_append_left _ (List.mem_append_left _ (List.mem_append_left _ (List.mem_append_left _ (List.mem_append_right _ (List.mem_append_right _ (List.mem_append_right _ (List.mem_append_right _ (List.mem_append_right _ (List.mem_append_right _ (List.mem_append_right _ (List.mem_append_right _ (List.mem_append_right _ (List.mem_append_right _ (List.mem_append_right _ (List.mem_append_right _ (List.mem_append_right _ (List.mem_append_right _ (h))))))))))))))))))))
theorem cl_L_9 : Cond.classLink RL 9 RX4 ∈ wsL_law := win_wsL_law_r1 _ (List.mem_of_getElem? (i := 0) rfl)
theorem ib_RX4 : Cond.instantiable RX4 5 ∈ wsL_law := win_wsL_law_r1 _ (List.mem_of_getElem? (i := 1) rfl)
theorem it_RX4 : Cond.initialized RX4 ∈ wsL_law := win_wsL_law_r1 _ (List.mem_of_getElem? (i := 2) rfl)
theorem ki_L_50 : Cond.constant RL 50 100100 ∈ wsL_law := win_wsL_law_r1 _ (List.mem_of_getElem? (i := 3) rfl)
theorem ml_L_75 : Cond.methodLink RL 75 yX4_init ∈ wsL_law := win_wsL_law_r1 _ (List.mem_of_getElem? (i := 4) rfl)
theorem im_X4_init : Cond.instanceMethod yX4_init ∈ wsL_law := win_wsL_law_r1 _ (List.mem_of_getElem? (i := 5) rfl)
theorem co_X4_init : Cond.code yX4_init cX4_init 1 none ∈ wsL_law := win_wsL_law_r1 _ (List.mem_of_getElem? (i := 6) rfl)
theorem ml_X4_1 : Cond.methodLink RX4 1 objectInit ∈ wsL_law := win_wsL_law_r1 _ (List.mem_of_getElem? (i := 7) rfl)
theorem im_objectInit : Cond.instanceMethod objectInit ∈ wsL_law := win_wsL_law_r1 _ (List.mem_of_getElem? (i := 8) rfl)
theorem co_objectInit : Cond.code objectInit ⟨#[0xb1]⟩ 1 none ∈ wsL_law := win_wsL_law_r1 _ (List.mem_of_getElem? (i := 9) rfl)
theorem cl_X4_7 : Cond.classLink RX4 7 RX3 ∈ wsL_law := win_wsL_law_r1 _ (List.mem_of_getElem? (i := 10) rfl)
theorem ib_RX3 : Cond.instantiable RX3 17 ∈ wsL_law := win_wsL_law_r1 _ (List.mem_of_getElem? (i := 11) rfl)
theorem it_RX3 : Cond.initialized RX3 ∈ wsL_law := win_wsL_law_r1 _ (List.mem_of_getElem? (i := 12) rfl)
theorem fl_X4_10 : Cond.fieldLink RX4 10 "StickRests" "stick" "LStickRests$Stick;" ∈ wsL_law := win_wsL_law_r1 _ (List.mem_of_getElem? (i := 13) rfl)
theorem fl_X4_16 : Cond.fieldLink RX4 16 "StickRests" "trial" "LStickRests$Stick;" ∈ wsL_law := win_wsL_law_r1 _ (List.mem_of_getElem? (i := 14) rfl)
theorem cl_X4_19 : Cond.classLink RX4 19 RX2 ∈ wsL_law := win_wsL_law_r1 _ (List.mem_of_getElem? (i := 15) rfl)
theorem ib_RX2 : Cond.instantiable RX2 7 ∈ wsL_law := win_wsL_law_r1 _ (List.mem_of_getElem? (i := 16) rfl)
theorem it_RX2 : Cond.initialized RX2 ∈ wsL_law := win_wsL_law_r1 _ (List.mem_of_getElem? (i := 17) rfl)
theorem fl_X4_22 : Cond.fieldLink RX4 22 "StickRests" "pad" "LStickRests$Pad;" ∈ wsL_law := win_wsL_law_r1 _ (List.mem_of_getElem? (i := 18) rfl)
theorem cl_X4_26 : Cond.classLink RX4 26 RX1 ∈ wsL_law := win_wsL_law_r1 _ (List.mem_of_getElem? (i := 19) rfl)
theorem ib_RX1 : Cond.instantiable RX1 3 ∈ wsL_law := win_wsL_law_r1 _ (List.mem_of_getElem? (i := 20) rfl)
theorem it_RX1 : Cond.initialized RX1 ∈ wsL_law := win_wsL_law_r1 _ (List.mem_of_getElem? (i := 21) rfl)
theorem fl_X4_29 : Cond.fieldLink RX4 29 "StickRests" "history" "LStickRests$History;" ∈ wsL_law := win_wsL_law_r1 _ (List.mem_of_getElem? (i := 22) rfl)
theorem fl_X4_33 : Cond.fieldLink RX4 33 "StickRests" "slots" "[LStickRests$Stick;" ∈ wsL_law := win_wsL_law_r1 _ (List.mem_of_getElem? (i := 23) rfl)
theorem ml_X4_9 : Cond.methodLink RX4 9 yX3_init ∈ wsL_law := win_wsL_law_r2 _ (List.mem_of_getElem? (i := 0) rfl)
theorem im_X3_init : Cond.instanceMethod yX3_init ∈ wsL_law := win_wsL_law_r2 _ (List.mem_of_getElem? (i := 1) rfl)
theorem co_X3_init : Cond.code yX3_init cX3_init 1 none ∈ wsL_law := win_wsL_law_r2 _ (List.mem_of_getElem? (i := 2) rfl)
theorem ml_X3_3 : Cond.methodLink RX3 3 objectInit ∈ wsL_law := win_wsL_law_r2 _ (List.mem_of_getElem? (i := 3) rfl)
theorem ml_X3_13 : Cond.methodLink RX3 13 ⟨"[I", "clone", "()Ljava/lang/Object;"⟩ ∈ wsL_law := win_wsL_law_r2 _ (List.mem_of_getElem? (i := 4) rfl)
theorem cl_X3_14 : Cond.classLink RX3 14 "[I" ∈ wsL_law := win_wsL_law_r2 _ (List.mem_of_getElem? (i := 9) rfl)
theorem fl_X3_18 : Cond.fieldLink RX3 18 "StickRests$Stick" "settings" "[I" ∈ wsL_law := win_wsL_law_r2 _ (List.mem_of_getElem? (i := 10) rfl)
theorem cl_X3_23 : Cond.classLink RX3 23 RX0 ∈ wsL_law := win_wsL_law_r2 _ (List.mem_of_getElem? (i := 11) rfl)
theorem ib_RX0 : Cond.instantiable RX0 6 ∈ wsL_law := win_wsL_law_r2 _ (List.mem_of_getElem? (i := 12) rfl)
theorem it_RX0 : Cond.initialized RX0 ∈ wsL_law := win_wsL_law_r2 _ (List.mem_of_getElem? (i := 13) rfl)
theorem fl_X3_26 : Cond.fieldLink RX3 26 "StickRests$Stick" "directions" "LStickRests$Directions;" ∈ wsL_law := win_wsL_law_r2 _ (List.mem_of_getElem? (i := 14) rfl)
theorem fl_X3_30 : Cond.fieldLink RX3 30 "StickRests$Stick" "restX" "I" ∈ wsL_law := win_wsL_law_r2 _ (List.mem_of_getElem? (i := 15) rfl)
theorem fl_X3_34 : Cond.fieldLink RX3 34 "StickRests$Stick" "restY" "I" ∈ wsL_law := win_wsL_law_r2 _ (List.mem_of_getElem? (i := 16) rfl)
theorem fl_X3_37 : Cond.fieldLink RX3 37 "StickRests$Stick" "zone" "I" ∈ wsL_law := win_wsL_law_r2 _ (List.mem_of_getElem? (i := 17) rfl)
theorem ml_X3_25 : Cond.methodLink RX3 25 yX0_init ∈ wsL_law := win_wsL_law_r2 _ (List.mem_of_getElem? (i := 18) rfl)
theorem im_X0_init : Cond.instanceMethod yX0_init ∈ wsL_law := win_wsL_law_r2 _ (List.mem_of_getElem? (i := 19) rfl)
theorem co_X0_init : Cond.code yX0_init cX0_init 1 none ∈ wsL_law := win_wsL_law_r2 _ (List.mem_of_getElem? (i := 20) rfl)
theorem ml_X0_3 : Cond.methodLink RX0 3 objectInit ∈ wsL_law := win_wsL_law_r2 _ (List.mem_of_getElem? (i := 21) rfl)
theorem ac_int : Cond.arrayClass .int ∈ wsL_law := win_wsL_law_r2 _ (List.mem_of_getElem? (i := 22) rfl)
theorem fl_X0_9 : Cond.fieldLink RX0 9 "StickRests$Directions" "byRank" "[I" ∈ wsL_law := win_wsL_law_r2 _ (List.mem_of_getElem? (i := 23) rfl)
theorem fl_X0_15 : Cond.fieldLink RX0 15 "StickRests$Directions" "samplesIn" "[I" ∈ wsL_law := win_wsL_law_r3 _ (List.mem_of_getElem? (i := 0) rfl)
theorem fl_X0_18 : Cond.fieldLink RX0 18 "StickRests$Directions" "longest" "[I" ∈ wsL_law := win_wsL_law_r3 _ (List.mem_of_getElem? (i := 1) rfl)
theorem fl_X0_21 : Cond.fieldLink RX0 21 "StickRests$Directions" "latest" "I" ∈ wsL_law := win_wsL_law_r3 _ (List.mem_of_getElem? (i := 2) rfl)
theorem ml_X4_21 : Cond.methodLink RX4 21 yX2_init ∈ wsL_law := win_wsL_law_r3 _ (List.mem_of_getElem? (i := 3) rfl)
theorem im_X2_init : Cond.instanceMethod yX2_init ∈ wsL_law := win_wsL_law_r3 _ (List.mem_of_getElem? (i := 4) rfl)
theorem co_X2_init : Cond.code yX2_init cX2_init 1 none ∈ wsL_law := win_wsL_law_r3 _ (List.mem_of_getElem? (i := 5) rfl)
theorem ml_X2_3 : Cond.methodLink RX2 3 objectInit ∈ wsL_law := win_wsL_law_r3 _ (List.mem_of_getElem? (i := 6) rfl)
theorem ac_char : Cond.arrayClass .char ∈ wsL_law := win_wsL_law_r3 _ (List.mem_of_getElem? (i := 7) rfl)
theorem fl_X2_9 : Cond.fieldLink RX2 9 "StickRests$Pad" "text" "[C" ∈ wsL_law := win_wsL_law_r3 _ (List.mem_of_getElem? (i := 8) rfl)
theorem ml_X4_28 : Cond.methodLink RX4 28 yX1_init ∈ wsL_law := win_wsL_law_r3 _ (List.mem_of_getElem? (i := 9) rfl)
theorem im_X1_init : Cond.instanceMethod yX1_init ∈ wsL_law := win_wsL_law_r3 _ (List.mem_of_getElem? (i := 10) rfl)
theorem co_X1_init : Cond.code yX1_init cX1_init 1 none ∈ wsL_law := win_wsL_law_r3 _ (List.mem_of_getElem? (i := 11) rfl)
theorem ml_X1_3 : Cond.methodLink RX1 3 objectInit ∈ wsL_law := win_wsL_law_r3 _ (List.mem_of_getElem? (i := 12) rfl)
theorem cl_X1_9 : Cond.classLink RX1 9 RX3 ∈ wsL_law := win_wsL_law_r3 _ (List.mem_of_getElem? (i := 13) rfl)
theorem fl_X1_11 : Cond.fieldLink RX1 11 "StickRests$History" "states" "[LStickRests$Stick;" ∈ wsL_law := win_wsL_law_r3 _ (List.mem_of_getElem? (i := 14) rfl)
theorem ml_L_76 : Cond.methodLink RL 76 yL_isStick ∈ wsL_law := win_wsL_law_r3 _ (List.mem_of_getElem? (i := 15) rfl)
theorem sm_L_isStick : Cond.static yL_isStick ∈ wsL_law := win_wsL_law_r3 _ (List.mem_of_getElem? (i := 16) rfl)
theorem it_RL : Cond.initialized RL ∈ wsL_law := win_wsL_law_r3 _ (List.mem_of_getElem? (i := 17) rfl)
theorem co_L_isStick : Cond.code yL_isStick cL_isStick 11 (some .boolean) ∈ wsL_law := win_wsL_law_r3 _ (List.mem_of_getElem? (i := 18) rfl)
theorem ml_L_8 : Cond.methodLink RL 8 yX4_count ∈ wsL_law := win_wsL_law_r3 _ (List.mem_of_getElem? (i := 19) rfl)
theorem im_X4_count : Cond.instanceMethod yX4_count ∈ wsL_law := win_wsL_law_r3 _ (List.mem_of_getElem? (i := 20) rfl)
theorem se_X4_count : Cond.selects RX4 yX4_count yX4_count ∈ wsL_law := win_wsL_law_r3 _ (List.mem_of_getElem? (i := 21) rfl)
theorem co_X4_count : Cond.code yX4_count cX4_count 2 (some .int) ∈ wsL_law := win_wsL_law_r3 _ (List.mem_of_getElem? (i := 22) rfl)
theorem ml_X4_105 : Cond.methodLink RX4 105 yX3_number ∈ wsL_law := win_wsL_law_r3 _ (List.mem_of_getElem? (i := 23) rfl)
theorem im_X3_number : Cond.instanceMethod yX3_number ∈ wsL_law := win_wsL_law_r4 _ (List.mem_of_getElem? (i := 0) rfl)
theorem se_X3_number : Cond.selects RX3 yX3_number yX3_number ∈ wsL_law := win_wsL_law_r4 _ (List.mem_of_getElem? (i := 1) rfl)
theorem co_X3_number : Cond.code yX3_number cX3_number 2 (some .int) ∈ wsL_law := win_wsL_law_r4 _ (List.mem_of_getElem? (i := 2) rfl)
theorem fl_X3_68 : Cond.fieldLink RX3 68 "StickRests$Stick" "samples" "I" ∈ wsL_law := win_wsL_law_r4 _ (List.mem_of_getElem? (i := 3) rfl)
theorem fl_X3_62 : Cond.fieldLink RX3 62 "StickRests$Stick" "still" "I" ∈ wsL_law := win_wsL_law_r4 _ (List.mem_of_getElem? (i := 4) rfl)
theorem fl_X3_65 : Cond.fieldLink RX3 65 "StickRests$Stick" "shaking" "I" ∈ wsL_law := win_wsL_law_r4 _ (List.mem_of_getElem? (i := 5) rfl)
theorem fl_X3_71 : Cond.fieldLink RX3 71 "StickRests$Stick" "letGo" "I" ∈ wsL_law := win_wsL_law_r4 _ (List.mem_of_getElem? (i := 6) rfl)
theorem fl_X3_74 : Cond.fieldLink RX3 74 "StickRests$Stick" "drifted" "I" ∈ wsL_law := win_wsL_law_r4 _ (List.mem_of_getElem? (i := 7) rfl)
theorem fl_X3_77 : Cond.fieldLink RX3 77 "StickRests$Stick" "down" "I" ∈ wsL_law := win_wsL_law_r4 _ (List.mem_of_getElem? (i := 8) rfl)
theorem fl_X3_80 : Cond.fieldLink RX3 80 "StickRests$Stick" "tellingSamples" "I" ∈ wsL_law := win_wsL_law_r4 _ (List.mem_of_getElem? (i := 9) rfl)
theorem fl_X3_83 : Cond.fieldLink RX3 83 "StickRests$Stick" "shakenInZone" "I" ∈ wsL_law := win_wsL_law_r4 _ (List.mem_of_getElem? (i := 10) rfl)
theorem ml_L_14 : Cond.methodLink RL 14 yX4_of ∈ wsL_law := win_wsL_law_r4 _ (List.mem_of_getElem? (i := 11) rfl)
theorem im_X4_of : Cond.instanceMethod yX4_of ∈ wsL_law := win_wsL_law_r4 _ (List.mem_of_getElem? (i := 12) rfl)
theorem se_X4_of : Cond.selects RX4 yX4_of yX4_of ∈ wsL_law := win_wsL_law_r4 _ (List.mem_of_getElem? (i := 13) rfl)
theorem co_X4_of : Cond.code yX4_of cX4_of 3 (some .int) ∈ wsL_law := win_wsL_law_r4 _ (List.mem_of_getElem? (i := 14) rfl)
theorem ml_X4_83 : Cond.methodLink RX4 83 yX3_aboutX ∈ wsL_law := win_wsL_law_r4 _ (List.mem_of_getElem? (i := 15) rfl)
theorem im_X3_aboutX : Cond.instanceMethod yX3_aboutX ∈ wsL_law := win_wsL_law_r4 _ (List.mem_of_getElem? (i := 16) rfl)
theorem se_X3_aboutX : Cond.selects RX3 yX3_aboutX yX3_aboutX ∈ wsL_law := win_wsL_law_r4 _ (List.mem_of_getElem? (i := 17) rfl)
theorem co_X3_aboutX : Cond.code yX3_aboutX cX3_aboutX 2 (some .int) ∈ wsL_law := win_wsL_law_r4 _ (List.mem_of_getElem? (i := 18) rfl)
theorem fl_X3_50 : Cond.fieldLink RX3 50 "StickRests$Stick" "tellX" "I" ∈ wsL_law := win_wsL_law_r4 _ (List.mem_of_getElem? (i := 19) rfl)
theorem fl_X3_56 : Cond.fieldLink RX3 56 "StickRests$Stick" "latestX" "I" ∈ wsL_law := win_wsL_law_r4 _ (List.mem_of_getElem? (i := 20) rfl)
theorem ml_X3_164 : Cond.methodLink RX3 164 yX3_about ∈ wsL_law := win_wsL_law_r4 _ (List.mem_of_getElem? (i := 21) rfl)
theorem im_X3_about : Cond.instanceMethod yX3_about ∈ wsL_law := win_wsL_law_r4 _ (List.mem_of_getElem? (i := 22) rfl)
theorem se_X3_about : Cond.selects RX3 yX3_about yX3_about ∈ wsL_law := win_wsL_law_r4 _ (List.mem_of_getElem? (i := 23) rfl)
theorem co_X3_about : Cond.code yX3_about cX3_about 5 (some .int) ∈ wsL_law := win_wsL_law_r5 _ (List.mem_of_getElem? (i := 0) rfl)
theorem ml_X4_86 : Cond.methodLink RX4 86 yX3_aboutY ∈ wsL_law := win_wsL_law_r5 _ (List.mem_of_getElem? (i := 1) rfl)
theorem im_X3_aboutY : Cond.instanceMethod yX3_aboutY ∈ wsL_law := win_wsL_law_r5 _ (List.mem_of_getElem? (i := 2) rfl)
theorem se_X3_aboutY : Cond.selects RX3 yX3_aboutY yX3_aboutY ∈ wsL_law := win_wsL_law_r5 _ (List.mem_of_getElem? (i := 3) rfl)
theorem co_X3_aboutY : Cond.code yX3_aboutY cX3_aboutY 2 (some .int) ∈ wsL_law := win_wsL_law_r5 _ (List.mem_of_getElem? (i := 4) rfl)
theorem fl_X3_53 : Cond.fieldLink RX3 53 "StickRests$Stick" "tellY" "I" ∈ wsL_law := win_wsL_law_r5 _ (List.mem_of_getElem? (i := 5) rfl)
theorem fl_X3_59 : Cond.fieldLink RX3 59 "StickRests$Stick" "latestY" "I" ∈ wsL_law := win_wsL_law_r5 _ (List.mem_of_getElem? (i := 6) rfl)
theorem ml_L_18 : Cond.methodLink RL 18 yL_size ∈ wsL_law := win_wsL_law_r5 _ (List.mem_of_getElem? (i := 7) rfl)
theorem sm_L_size : Cond.static yL_size ∈ wsL_law := win_wsL_law_r5 _ (List.mem_of_getElem? (i := 8) rfl)
theorem co_L_size : Cond.code yL_size cL_size 1 (some .int) ∈ wsL_law := win_wsL_law_r5 _ (List.mem_of_getElem? (i := 9) rfl)
theorem ml_L_23 : Cond.methodLink RL 23 yX4_direction ∈ wsL_law := win_wsL_law_r5 _ (List.mem_of_getElem? (i := 10) rfl)
theorem im_X4_direction : Cond.instanceMethod yX4_direction ∈ wsL_law := win_wsL_law_r5 _ (List.mem_of_getElem? (i := 11) rfl)
theorem se_X4_direction : Cond.selects RX4 yX4_direction yX4_direction ∈ wsL_law := win_wsL_law_r5 _ (List.mem_of_getElem? (i := 12) rfl)
theorem co_X4_direction : Cond.code yX4_direction cX4_direction 3 (some .int) ∈ wsL_law := win_wsL_law_r5 _ (List.mem_of_getElem? (i := 13) rfl)
theorem ml_X4_93 : Cond.methodLink RX4 93 yX0_about ∈ wsL_law := win_wsL_law_r5 _ (List.mem_of_getElem? (i := 14) rfl)
theorem im_X0_about : Cond.instanceMethod yX0_about ∈ wsL_law := win_wsL_law_r5 _ (List.mem_of_getElem? (i := 15) rfl)
theorem se_X0_about : Cond.selects RX0 yX0_about yX0_about ∈ wsL_law := win_wsL_law_r5 _ (List.mem_of_getElem? (i := 16) rfl)
theorem co_X0_about : Cond.code yX0_about cX0_about 4 (some .int) ∈ wsL_law := win_wsL_law_r5 _ (List.mem_of_getElem? (i := 17) rfl)
theorem fl_X0_31 : Cond.fieldLink RX0 31 "StickRests$Directions" "unlike" "I" ∈ wsL_law := win_wsL_law_r5 _ (List.mem_of_getElem? (i := 18) rfl)
theorem ml_L_29 : Cond.methodLink RL 29 yX4_wouldTell ∈ wsL_law := win_wsL_law_r5 _ (List.mem_of_getElem? (i := 19) rfl)
theorem im_X4_wouldTell : Cond.instanceMethod yX4_wouldTell ∈ wsL_law := win_wsL_law_r5 _ (List.mem_of_getElem? (i := 20) rfl)
theorem se_X4_wouldTell : Cond.selects RX4 yX4_wouldTell yX4_wouldTell ∈ wsL_law := win_wsL_law_r5 _ (List.mem_of_getElem? (i := 21) rfl)
theorem co_X4_wouldTell : Cond.code yX4_wouldTell cX4_wouldTell 3 (some .int) ∈ wsL_law := win_wsL_law_r5 _ (List.mem_of_getElem? (i := 22) rfl)
theorem ml_X4_108 : Cond.methodLink RX4 108 yX4_isSample ∈ wsL_law := win_wsL_law_r5 _ (List.mem_of_getElem? (i := 23) rfl)
theorem sm_X4_isSample : Cond.static yX4_isSample ∈ wsL_law := win_wsL_law_r6 _ (List.mem_of_getElem? (i := 0) rfl)
theorem co_X4_isSample : Cond.code yX4_isSample cX4_isSample 2 (some .boolean) ∈ wsL_law := win_wsL_law_r6 _ (List.mem_of_getElem? (i := 1) rfl)
theorem ml_X4_112 : Cond.methodLink RX4 112 yX3_tellingAt ∈ wsL_law := win_wsL_law_r6 _ (List.mem_of_getElem? (i := 2) rfl)
theorem im_X3_tellingAt : Cond.instanceMethod yX3_tellingAt ∈ wsL_law := win_wsL_law_r6 _ (List.mem_of_getElem? (i := 3) rfl)
theorem se_X3_tellingAt : Cond.selects RX3 yX3_tellingAt yX3_tellingAt ∈ wsL_law := win_wsL_law_r6 _ (List.mem_of_getElem? (i := 4) rfl)
theorem co_X3_tellingAt : Cond.code yX3_tellingAt cX3_tellingAt 7 (some .int) ∈ wsL_law := win_wsL_law_r6 _ (List.mem_of_getElem? (i := 5) rfl)
theorem ml_X3_86 : Cond.methodLink RX3 86 Lib.Math.abs.name ∈ wsL_law := win_wsL_law_r6 _ (List.mem_of_getElem? (i := 6) rfl)
theorem sm_Lib_Math_abs_name : Cond.static Lib.Math.abs.name ∈ wsL_law := win_wsL_law_r6 _ (List.mem_of_getElem? (i := 7) rfl)
theorem it_RJ9 : Cond.initialized "java/lang/Math" ∈ wsL_law := win_wsL_law_r6 _ (List.mem_of_getElem? (i := 8) rfl)
theorem co_Lib_Math_abs_name : Cond.code Lib.Math.abs.name Lib.Math.abs.code 1 (some .int) ∈ wsL_law := win_wsL_law_r6 _ (List.mem_of_getElem? (i := 9) rfl)
theorem ml_X3_114 : Cond.methodLink RX3 114 yX3_farthestOff ∈ wsL_law := win_wsL_law_r6 _ (List.mem_of_getElem? (i := 10) rfl)
theorem im_X3_farthestOff : Cond.instanceMethod yX3_farthestOff ∈ wsL_law := win_wsL_law_r6 _ (List.mem_of_getElem? (i := 11) rfl)
theorem se_X3_farthestOff : Cond.selects RX3 yX3_farthestOff yX3_farthestOff ∈ wsL_law := win_wsL_law_r6 _ (List.mem_of_getElem? (i := 12) rfl)
theorem co_X3_farthestOff : Cond.code yX3_farthestOff cX3_farthestOff 3 (some .int) ∈ wsL_law := win_wsL_law_r6 _ (List.mem_of_getElem? (i := 13) rfl)
theorem ml_X3_110 : Cond.methodLink RX3 110 Lib.Math.max.name ∈ wsL_law := win_wsL_law_r6 _ (List.mem_of_getElem? (i := 14) rfl)
theorem sm_Lib_Math_max_name : Cond.static Lib.Math.max.name ∈ wsL_law := win_wsL_law_r6 _ (List.mem_of_getElem? (i := 15) rfl)
theorem co_Lib_Math_max_name : Cond.code Lib.Math.max.name Lib.Math.max.code 2 (some .int) ∈ wsL_law := win_wsL_law_r6 _ (List.mem_of_getElem? (i := 16) rfl)
theorem ml_X3_103 : Cond.methodLink RX3 103 yX3_restPlaceX ∈ wsL_law := win_wsL_law_r6 _ (List.mem_of_getElem? (i := 17) rfl)
theorem im_X3_restPlaceX : Cond.instanceMethod yX3_restPlaceX ∈ wsL_law := win_wsL_law_r6 _ (List.mem_of_getElem? (i := 18) rfl)
theorem se_X3_restPlaceX : Cond.selects RX3 yX3_restPlaceX yX3_restPlaceX ∈ wsL_law := win_wsL_law_r6 _ (List.mem_of_getElem? (i := 19) rfl)
theorem co_X3_restPlaceX : Cond.code yX3_restPlaceX cX3_restPlaceX 1 (some .int) ∈ wsL_law := win_wsL_law_r6 _ (List.mem_of_getElem? (i := 20) rfl)
theorem ml_X3_107 : Cond.methodLink RX3 107 yX3_restPlaceY ∈ wsL_law := win_wsL_law_r6 _ (List.mem_of_getElem? (i := 21) rfl)
theorem im_X3_restPlaceY : Cond.instanceMethod yX3_restPlaceY ∈ wsL_law := win_wsL_law_r6 _ (List.mem_of_getElem? (i := 22) rfl)
theorem se_X3_restPlaceY : Cond.selects RX3 yX3_restPlaceY yX3_restPlaceY ∈ wsL_law := win_wsL_law_r6 _ (List.mem_of_getElem? (i := 23) rfl)
theorem co_X3_restPlaceY : Cond.code yX3_restPlaceY cX3_restPlaceY 1 (some .int) ∈ wsL_law := win_wsL_law_r7 _ (List.mem_of_getElem? (i := 0) rfl)
theorem ml_X3_120 : Cond.methodLink RX3 120 yX3_wouldDrift ∈ wsL_law := win_wsL_law_r7 _ (List.mem_of_getElem? (i := 1) rfl)
theorem im_X3_wouldDrift : Cond.instanceMethod yX3_wouldDrift ∈ wsL_law := win_wsL_law_r7 _ (List.mem_of_getElem? (i := 2) rfl)
theorem se_X3_wouldDrift : Cond.selects RX3 yX3_wouldDrift yX3_wouldDrift ∈ wsL_law := win_wsL_law_r7 _ (List.mem_of_getElem? (i := 3) rfl)
theorem co_X3_wouldDrift : Cond.code yX3_wouldDrift cX3_wouldDrift 4 (some .boolean) ∈ wsL_law := win_wsL_law_r7 _ (List.mem_of_getElem? (i := 4) rfl)
theorem ml_X3_117 : Cond.methodLink RX3 117 yX3_stillWith ∈ wsL_law := win_wsL_law_r7 _ (List.mem_of_getElem? (i := 5) rfl)
theorem im_X3_stillWith : Cond.instanceMethod yX3_stillWith ∈ wsL_law := win_wsL_law_r7 _ (List.mem_of_getElem? (i := 6) rfl)
theorem se_X3_stillWith : Cond.selects RX3 yX3_stillWith yX3_stillWith ∈ wsL_law := win_wsL_law_r7 _ (List.mem_of_getElem? (i := 7) rfl)
theorem co_X3_stillWith : Cond.code yX3_stillWith cX3_stillWith 4 (some .int) ∈ wsL_law := win_wsL_law_r7 _ (List.mem_of_getElem? (i := 8) rfl)
theorem sm_X4_packed : Cond.static yX4_packed ∈ wsL_law := win_wsL_law_r7 _ (List.mem_of_getElem? (i := 9) rfl)
theorem co_X4_packed : Cond.code yX4_packed cX4_packed 2 (some .int) ∈ wsL_law := win_wsL_law_r7 _ (List.mem_of_getElem? (i := 10) rfl)
theorem ml_X3_126 : Cond.methodLink RX3 126 yX3_leanOf ∈ wsL_law := win_wsL_law_r7 _ (List.mem_of_getElem? (i := 11) rfl)
theorem im_X3_leanOf : Cond.instanceMethod yX3_leanOf ∈ wsL_law := win_wsL_law_r7 _ (List.mem_of_getElem? (i := 12) rfl)
theorem se_X3_leanOf : Cond.selects RX3 yX3_leanOf yX3_leanOf ∈ wsL_law := win_wsL_law_r7 _ (List.mem_of_getElem? (i := 13) rfl)
theorem co_X3_leanOf : Cond.code yX3_leanOf cX3_leanOf 4 (some .int) ∈ wsL_law := win_wsL_law_r7 _ (List.mem_of_getElem? (i := 14) rfl)
theorem ml_X3_132 : Cond.methodLink RX3 132 Lib.Math.min.name ∈ wsL_law := win_wsL_law_r7 _ (List.mem_of_getElem? (i := 15) rfl)
theorem sm_Lib_Math_min_name : Cond.static Lib.Math.min.name ∈ wsL_law := win_wsL_law_r7 _ (List.mem_of_getElem? (i := 16) rfl)
theorem co_Lib_Math_min_name : Cond.code Lib.Math.min.name Lib.Math.min.code 2 (some .int) ∈ wsL_law := win_wsL_law_r7 _ (List.mem_of_getElem? (i := 17) rfl)
theorem sm_X4_quotient : Cond.static yX4_quotient ∈ wsL_law := win_wsL_law_r7 _ (List.mem_of_getElem? (i := 18) rfl)
theorem co_X4_quotient : Cond.code yX4_quotient cX4_quotient 2 (some .int) ∈ wsL_law := win_wsL_law_r7 _ (List.mem_of_getElem? (i := 19) rfl)
theorem ml_L_35 : Cond.methodLink RL 35 yX4_learnedIn ∈ wsL_law := win_wsL_law_r7 _ (List.mem_of_getElem? (i := 20) rfl)
theorem im_X4_learnedIn : Cond.instanceMethod yX4_learnedIn ∈ wsL_law := win_wsL_law_r7 _ (List.mem_of_getElem? (i := 21) rfl)
theorem se_X4_learnedIn : Cond.selects RX4 yX4_learnedIn yX4_learnedIn ∈ wsL_law := win_wsL_law_r7 _ (List.mem_of_getElem? (i := 22) rfl)
theorem co_X4_learnedIn : Cond.code yX4_learnedIn cX4_learnedIn 4 (some .int) ∈ wsL_law := win_wsL_law_r7 _ (List.mem_of_getElem? (i := 23) rfl)
theorem ml_X4_115 : Cond.methodLink RX4 115 yX3_becomeLike ∈ wsL_law := win_wsL_law_r8 _ (List.mem_of_getElem? (i := 0) rfl)
theorem im_X3_becomeLike : Cond.instanceMethod yX3_becomeLike ∈ wsL_law := win_wsL_law_r8 _ (List.mem_of_getElem? (i := 1) rfl)
theorem se_X3_becomeLike : Cond.selects RX3 yX3_becomeLike yX3_becomeLike ∈ wsL_law := win_wsL_law_r8 _ (List.mem_of_getElem? (i := 2) rfl)
theorem co_X3_becomeLike : Cond.code yX3_becomeLike cX3_becomeLike 2 none ∈ wsL_law := win_wsL_law_r8 _ (List.mem_of_getElem? (i := 3) rfl)
theorem ml_X3_40 : Cond.methodLink RX3 40 arraycopyName ∈ wsL_law := win_wsL_law_r8 _ (List.mem_of_getElem? (i := 4) rfl)
theorem sm_arraycopyName : Cond.static arraycopyName ∈ wsL_law := win_wsL_law_r8 _ (List.mem_of_getElem? (i := 6) rfl)
theorem it_java_lang_System : Cond.initialized "java/lang/System" ∈ wsL_law := win_wsL_law_r8 _ (List.mem_of_getElem? (i := 7) rfl)
theorem ml_X3_46 : Cond.methodLink RX3 46 yX0_becomeLike ∈ wsL_law := win_wsL_law_r8 _ (List.mem_of_getElem? (i := 8) rfl)
theorem im_X0_becomeLike : Cond.instanceMethod yX0_becomeLike ∈ wsL_law := win_wsL_law_r8 _ (List.mem_of_getElem? (i := 9) rfl)
theorem se_X0_becomeLike : Cond.selects RX0 yX0_becomeLike yX0_becomeLike ∈ wsL_law := win_wsL_law_r8 _ (List.mem_of_getElem? (i := 10) rfl)
theorem co_X0_becomeLike : Cond.code yX0_becomeLike cX0_becomeLike 2 none ∈ wsL_law := win_wsL_law_r8 _ (List.mem_of_getElem? (i := 11) rfl)
theorem ml_X0_25 : Cond.methodLink RX0 25 arraycopyName ∈ wsL_law := win_wsL_law_r8 _ (List.mem_of_getElem? (i := 12) rfl)
theorem fl_X0_34 : Cond.fieldLink RX0 34 "StickRests$Directions" "run" "I" ∈ wsL_law := win_wsL_law_r8 _ (List.mem_of_getElem? (i := 13) rfl)
theorem ml_X4_118 : Cond.methodLink RX4 118 yX3_isOffByNothing ∈ wsL_law := win_wsL_law_r8 _ (List.mem_of_getElem? (i := 14) rfl)
theorem im_X3_isOffByNothing : Cond.instanceMethod yX3_isOffByNothing ∈ wsL_law := win_wsL_law_r8 _ (List.mem_of_getElem? (i := 15) rfl)
theorem se_X3_isOffByNothing : Cond.selects RX3 yX3_isOffByNothing yX3_isOffByNothing ∈ wsL_law := win_wsL_law_r8 _ (List.mem_of_getElem? (i := 16) rfl)
theorem co_X3_isOffByNothing : Cond.code yX3_isOffByNothing cX3_isOffByNothing 3 (some .boolean) ∈ wsL_law := win_wsL_law_r8 _ (List.mem_of_getElem? (i := 17) rfl)
theorem ml_X4_59 : Cond.methodLink RX4 59 yX3_take ∈ wsL_law := win_wsL_law_r8 _ (List.mem_of_getElem? (i := 18) rfl)
theorem im_X3_take : Cond.instanceMethod yX3_take ∈ wsL_law := win_wsL_law_r8 _ (List.mem_of_getElem? (i := 19) rfl)
theorem se_X3_take : Cond.selects RX3 yX3_take yX3_take ∈ wsL_law := win_wsL_law_r8 _ (List.mem_of_getElem? (i := 20) rfl)
theorem co_X3_take : Cond.code yX3_take cX3_take 6 none ∈ wsL_law := win_wsL_law_r8 _ (List.mem_of_getElem? (i := 21) rfl)
theorem ml_X3_135 : Cond.methodLink RX3 135 yX3_tellingAt ∈ wsL_law := win_wsL_law_r8 _ (List.mem_of_getElem? (i := 22) rfl)
theorem ml_X3_138 : Cond.methodLink RX3 138 yX3_comeToRest ∈ wsL_law := win_wsL_law_r8 _ (List.mem_of_getElem? (i := 23) rfl)
theorem im_X3_comeToRest : Cond.instanceMethod yX3_comeToRest ∈ wsL_law := win_wsL_law_r9 _ (List.mem_of_getElem? (i := 0) rfl)
theorem se_X3_comeToRest : Cond.selects RX3 yX3_comeToRest yX3_comeToRest ∈ wsL_law := win_wsL_law_r9 _ (List.mem_of_getElem? (i := 1) rfl)
theorem co_X3_comeToRest : Cond.code yX3_comeToRest cX3_comeToRest 3 none ∈ wsL_law := win_wsL_law_r9 _ (List.mem_of_getElem? (i := 2) rfl)
theorem ml_X3_149 : Cond.methodLink RX3 149 yX3_tellsSomething ∈ wsL_law := win_wsL_law_r9 _ (List.mem_of_getElem? (i := 3) rfl)
theorem im_X3_tellsSomething : Cond.instanceMethod yX3_tellsSomething ∈ wsL_law := win_wsL_law_r9 _ (List.mem_of_getElem? (i := 4) rfl)
theorem se_X3_tellsSomething : Cond.selects RX3 yX3_tellsSomething yX3_tellsSomething ∈ wsL_law := win_wsL_law_r9 _ (List.mem_of_getElem? (i := 5) rfl)
theorem co_X3_tellsSomething : Cond.code yX3_tellsSomething cX3_tellsSomething 1 (some .boolean) ∈ wsL_law := win_wsL_law_r9 _ (List.mem_of_getElem? (i := 6) rfl)
theorem ml_X3_161 : Cond.methodLink RX3 161 yX3_fitZone ∈ wsL_law := win_wsL_law_r9 _ (List.mem_of_getElem? (i := 7) rfl)
theorem im_X3_fitZone : Cond.instanceMethod yX3_fitZone ∈ wsL_law := win_wsL_law_r9 _ (List.mem_of_getElem? (i := 8) rfl)
theorem se_X3_fitZone : Cond.selects RX3 yX3_fitZone yX3_fitZone ∈ wsL_law := win_wsL_law_r9 _ (List.mem_of_getElem? (i := 9) rfl)
theorem co_X3_fitZone : Cond.code yX3_fitZone cX3_fitZone 2 none ∈ wsL_law := win_wsL_law_r9 _ (List.mem_of_getElem? (i := 10) rfl)
theorem ml_X3_142 : Cond.methodLink RX3 142 yX3_driftTo ∈ wsL_law := win_wsL_law_r9 _ (List.mem_of_getElem? (i := 11) rfl)
theorem im_X3_driftTo : Cond.instanceMethod yX3_driftTo ∈ wsL_law := win_wsL_law_r9 _ (List.mem_of_getElem? (i := 12) rfl)
theorem se_X3_driftTo : Cond.selects RX3 yX3_driftTo yX3_driftTo ∈ wsL_law := win_wsL_law_r9 _ (List.mem_of_getElem? (i := 13) rfl)
theorem co_X3_driftTo : Cond.code yX3_driftTo cX3_driftTo 3 none ∈ wsL_law := win_wsL_law_r9 _ (List.mem_of_getElem? (i := 14) rfl)
theorem ml_X3_145 : Cond.methodLink RX3 145 yX3_tell ∈ wsL_law := win_wsL_law_r9 _ (List.mem_of_getElem? (i := 15) rfl)
theorem im_X3_tell : Cond.instanceMethod yX3_tell ∈ wsL_law := win_wsL_law_r9 _ (List.mem_of_getElem? (i := 16) rfl)
theorem se_X3_tell : Cond.selects RX3 yX3_tell yX3_tell ∈ wsL_law := win_wsL_law_r9 _ (List.mem_of_getElem? (i := 17) rfl)
theorem co_X3_tell : Cond.code yX3_tell cX3_tell 2 none ∈ wsL_law := win_wsL_law_r9 _ (List.mem_of_getElem? (i := 18) rfl)
theorem ml_X3_153 : Cond.methodLink RX3 153 yJ6_compare_7cf53 ∈ wsL_law := win_wsL_law_r9 _ (List.mem_of_getElem? (i := 19) rfl)
theorem sm_J6_compare_7cf53 : Cond.static yJ6_compare_7cf53 ∈ wsL_law := win_wsL_law_r9 _ (List.mem_of_getElem? (i := 20) rfl)
theorem it_RJ6 : Cond.initialized "java/lang/Integer" ∈ wsL_law := win_wsL_law_r9 _ (List.mem_of_getElem? (i := 21) rfl)
theorem co_J6_compare_7cf53 : Cond.code yJ6_compare_7cf53 cJ6_compare_7cf53 2 (some .int) ∈ wsL_law := win_wsL_law_r9 _ (List.mem_of_getElem? (i := 22) rfl)
theorem ml_X3_158 : Cond.methodLink RX3 158 yX0_note ∈ wsL_law := win_wsL_law_r9 _ (List.mem_of_getElem? (i := 23) rfl)
theorem im_X0_note : Cond.instanceMethod yX0_note ∈ wsL_law := win_wsL_law_r10 _ (List.mem_of_getElem? (i := 0) rfl)
theorem se_X0_note : Cond.selects RX0 yX0_note yX0_note ∈ wsL_law := win_wsL_law_r10 _ (List.mem_of_getElem? (i := 1) rfl)
theorem co_X0_note : Cond.code yX0_note cX0_note 4 none ∈ wsL_law := win_wsL_law_r10 _ (List.mem_of_getElem? (i := 2) rfl)
theorem ml_X0_37 : Cond.methodLink RX0 37 Lib.Math.max.name ∈ wsL_law := win_wsL_law_r10 _ (List.mem_of_getElem? (i := 3) rfl)
theorem ml_L_80 : Cond.methodLink RL 80 yX4_undo ∈ wsL_law := win_wsL_law_r10 _ (List.mem_of_getElem? (i := 4) rfl)
theorem im_X4_undo : Cond.instanceMethod yX4_undo ∈ wsL_law := win_wsL_law_r10 _ (List.mem_of_getElem? (i := 5) rfl)
theorem se_X4_undo : Cond.selects RX4 yX4_undo yX4_undo ∈ wsL_law := win_wsL_law_r10 _ (List.mem_of_getElem? (i := 6) rfl)
theorem co_X4_undo : Cond.code yX4_undo cX4_undo 1 (some .int) ∈ wsL_law := win_wsL_law_r10 _ (List.mem_of_getElem? (i := 7) rfl)
theorem ml_X4_176 : Cond.methodLink RX4 176 yX1_takeBack ∈ wsL_law := win_wsL_law_r10 _ (List.mem_of_getElem? (i := 8) rfl)
theorem im_X1_takeBack : Cond.instanceMethod yX1_takeBack ∈ wsL_law := win_wsL_law_r10 _ (List.mem_of_getElem? (i := 9) rfl)
theorem se_X1_takeBack : Cond.selects RX1 yX1_takeBack yX1_takeBack ∈ wsL_law := win_wsL_law_r10 _ (List.mem_of_getElem? (i := 10) rfl)
theorem co_X1_takeBack : Cond.code yX1_takeBack cX1_takeBack 4 (some .int) ∈ wsL_law := win_wsL_law_r10 _ (List.mem_of_getElem? (i := 11) rfl)
theorem fl_X1_27 : Cond.fieldLink RX1 27 "StickRests$History" "size" "I" ∈ wsL_law := win_wsL_law_r10 _ (List.mem_of_getElem? (i := 12) rfl)
theorem ml_X1_30 : Cond.methodLink RX1 30 yX1_placeOf ∈ wsL_law := win_wsL_law_r10 _ (List.mem_of_getElem? (i := 13) rfl)
theorem im_X1_placeOf : Cond.instanceMethod yX1_placeOf ∈ wsL_law := win_wsL_law_r10 _ (List.mem_of_getElem? (i := 14) rfl)
theorem se_X1_placeOf : Cond.selects RX1 yX1_placeOf yX1_placeOf ∈ wsL_law := win_wsL_law_r10 _ (List.mem_of_getElem? (i := 15) rfl)
theorem co_X1_placeOf : Cond.code yX1_placeOf cX1_placeOf 2 (some .int) ∈ wsL_law := win_wsL_law_r10 _ (List.mem_of_getElem? (i := 16) rfl)
theorem fl_X1_17 : Cond.fieldLink RX1 17 "StickRests$History" "oldest" "I" ∈ wsL_law := win_wsL_law_r10 _ (List.mem_of_getElem? (i := 17) rfl)
theorem ml_X1_21 : Cond.methodLink RX1 21 yJ9_floorMod_7cf53 ∈ wsL_law := win_wsL_law_r10 _ (List.mem_of_getElem? (i := 18) rfl)
theorem sm_J9_floorMod_7cf53 : Cond.static yJ9_floorMod_7cf53 ∈ wsL_law := win_wsL_law_r10 _ (List.mem_of_getElem? (i := 19) rfl)
theorem co_J9_floorMod_7cf53 : Cond.code yJ9_floorMod_7cf53 cJ9_floorMod_7cf53 3 (some .int) ∈ wsL_law := win_wsL_law_r10 _ (List.mem_of_getElem? (i := 21) rfl)
theorem ml_X1_35 : Cond.methodLink RX1 35 yX3_becomeLike ∈ wsL_law := win_wsL_law_r10 _ (List.mem_of_getElem? (i := 22) rfl)
theorem ml_L_83 : Cond.methodLink RL 83 yL_cell ∈ wsL_law := win_wsL_law_r10 _ (List.mem_of_getElem? (i := 23) rfl)
theorem sm_L_cell : Cond.static yL_cell ∈ wsL_law := win_wsL_law_r11 _ (List.mem_of_getElem? (i := 0) rfl)
theorem co_L_cell : Cond.code yL_cell cL_cell 2 (some .int) ∈ wsL_law := win_wsL_law_r11 _ (List.mem_of_getElem? (i := 1) rfl)
theorem ml_L_87 : Cond.methodLink RL 87 yL_does ∈ wsL_law := win_wsL_law_r11 _ (List.mem_of_getElem? (i := 2) rfl)
theorem sm_L_does : Cond.static yL_does ∈ wsL_law := win_wsL_law_r11 _ (List.mem_of_getElem? (i := 3) rfl)
theorem co_L_does : Cond.code yL_does cL_does 20 (some .boolean) ∈ wsL_law := win_wsL_law_r11 _ (List.mem_of_getElem? (i := 4) rfl)
theorem ml_L_51 : Cond.methodLink RL 51 yL_low ∈ wsL_law := win_wsL_law_r11 _ (List.mem_of_getElem? (i := 5) rfl)
theorem sm_L_low : Cond.static yL_low ∈ wsL_law := win_wsL_law_r11 _ (List.mem_of_getElem? (i := 6) rfl)
theorem co_L_low : Cond.code yL_low cL_low 2 (some .int) ∈ wsL_law := win_wsL_law_r11 _ (List.mem_of_getElem? (i := 7) rfl)
theorem ki_L_7 : Cond.constant RL 7 2147483647 ∈ wsL_law := win_wsL_law_r11 _ (List.mem_of_getElem? (i := 8) rfl)
theorem ml_L_54 : Cond.methodLink RL 54 yX4_set ∈ wsL_law := win_wsL_law_r11 _ (List.mem_of_getElem? (i := 9) rfl)
theorem im_X4_set : Cond.instanceMethod yX4_set ∈ wsL_law := win_wsL_law_r11 _ (List.mem_of_getElem? (i := 10) rfl)
theorem se_X4_set : Cond.selects RX4 yX4_set yX4_set ∈ wsL_law := win_wsL_law_r11 _ (List.mem_of_getElem? (i := 11) rfl)
theorem co_X4_set : Cond.code yX4_set cX4_set 3 (some .int) ∈ wsL_law := win_wsL_law_r11 _ (List.mem_of_getElem? (i := 12) rfl)
theorem fl_X4_37 : Cond.fieldLink RX4 37 "StickRests" "LEAST" "[I" ∈ wsL_law := win_wsL_law_r11 _ (List.mem_of_getElem? (i := 13) rfl)
theorem fl_X4_41 : Cond.fieldLink RX4 41 "StickRests" "MOST" "[I" ∈ wsL_law := win_wsL_law_r11 _ (List.mem_of_getElem? (i := 14) rfl)
theorem ml_X4_44 : Cond.methodLink RX4 44 yX1_keep ∈ wsL_law := win_wsL_law_r11 _ (List.mem_of_getElem? (i := 15) rfl)
theorem im_X1_keep : Cond.instanceMethod yX1_keep ∈ wsL_law := win_wsL_law_r11 _ (List.mem_of_getElem? (i := 16) rfl)
theorem se_X1_keep : Cond.selects RX1 yX1_keep yX1_keep ∈ wsL_law := win_wsL_law_r11 _ (List.mem_of_getElem? (i := 17) rfl)
theorem co_X1_keep : Cond.code yX1_keep cX1_keep 4 none ∈ wsL_law := win_wsL_law_r11 _ (List.mem_of_getElem? (i := 18) rfl)
theorem ml_X1_34 : Cond.methodLink RX1 34 yX3_init ∈ wsL_law := win_wsL_law_r11 _ (List.mem_of_getElem? (i := 19) rfl)
theorem ml_X4_48 : Cond.methodLink RX4 48 yX3_changeSetting ∈ wsL_law := win_wsL_law_r11 _ (List.mem_of_getElem? (i := 20) rfl)
theorem im_X3_changeSetting : Cond.instanceMethod yX3_changeSetting ∈ wsL_law := win_wsL_law_r11 _ (List.mem_of_getElem? (i := 21) rfl)
theorem se_X3_changeSetting : Cond.selects RX3 yX3_changeSetting yX3_changeSetting ∈ wsL_law := win_wsL_law_r11 _ (List.mem_of_getElem? (i := 22) rfl)
theorem co_X3_changeSetting : Cond.code yX3_changeSetting cX3_changeSetting 4 (some .int) ∈ wsL_law := win_wsL_law_r11 _ (List.mem_of_getElem? (i := 23) rfl)
theorem ml_L_57 : Cond.methodLink RL 57 yL_isSample ∈ wsL_law := win_wsL_law_r12 _ (List.mem_of_getElem? (i := 0) rfl)
theorem sm_L_isSample : Cond.static yL_isSample ∈ wsL_law := win_wsL_law_r12 _ (List.mem_of_getElem? (i := 1) rfl)
theorem co_L_isSample : Cond.code yL_isSample cL_isSample 22 (some .boolean) ∈ wsL_law := win_wsL_law_r12 _ (List.mem_of_getElem? (i := 2) rfl)
theorem ml_L_26 : Cond.methodLink RL 26 yL_greater ∈ wsL_law := win_wsL_law_r12 _ (List.mem_of_getElem? (i := 3) rfl)
theorem sm_L_greater : Cond.static yL_greater ∈ wsL_law := win_wsL_law_r12 _ (List.mem_of_getElem? (i := 4) rfl)
theorem co_L_greater : Cond.code yL_greater cL_greater 2 (some .int) ∈ wsL_law := win_wsL_law_r12 _ (List.mem_of_getElem? (i := 5) rfl)
theorem ml_L_32 : Cond.methodLink RL 32 yX4_sample ∈ wsL_law := win_wsL_law_r12 _ (List.mem_of_getElem? (i := 6) rfl)
theorem im_X4_sample : Cond.instanceMethod yX4_sample ∈ wsL_law := win_wsL_law_r12 _ (List.mem_of_getElem? (i := 7) rfl)
theorem se_X4_sample : Cond.selects RX4 yX4_sample yX4_sample ∈ wsL_law := win_wsL_law_r12 _ (List.mem_of_getElem? (i := 8) rfl)
theorem co_X4_sample : Cond.code yX4_sample cX4_sample 3 (some .int) ∈ wsL_law := win_wsL_law_r12 _ (List.mem_of_getElem? (i := 9) rfl)
theorem ml_X4_52 : Cond.methodLink RX4 52 yX4_takeAlike ∈ wsL_law := win_wsL_law_r12 _ (List.mem_of_getElem? (i := 10) rfl)
theorem im_X4_takeAlike : Cond.instanceMethod yX4_takeAlike ∈ wsL_law := win_wsL_law_r12 _ (List.mem_of_getElem? (i := 11) rfl)
theorem se_X4_takeAlike : Cond.selects RX4 yX4_takeAlike yX4_takeAlike ∈ wsL_law := win_wsL_law_r12 _ (List.mem_of_getElem? (i := 12) rfl)
theorem co_X4_takeAlike : Cond.code yX4_takeAlike cX4_takeAlike 6 (some .int) ∈ wsL_law := win_wsL_law_r12 _ (List.mem_of_getElem? (i := 13) rfl)
theorem ml_X4_56 : Cond.methodLink RX4 56 yX3_refusalOfSamples ∈ wsL_law := win_wsL_law_r12 _ (List.mem_of_getElem? (i := 14) rfl)
theorem im_X3_refusalOfSamples : Cond.instanceMethod yX3_refusalOfSamples ∈ wsL_law := win_wsL_law_r12 _ (List.mem_of_getElem? (i := 15) rfl)
theorem se_X3_refusalOfSamples : Cond.selects RX3 yX3_refusalOfSamples yX3_refusalOfSamples ∈ wsL_law := win_wsL_law_r12 _ (List.mem_of_getElem? (i := 16) rfl)
theorem co_X3_refusalOfSamples : Cond.code yX3_refusalOfSamples cX3_refusalOfSamples 4 (some .int) ∈ wsL_law := win_wsL_law_r12 _ (List.mem_of_getElem? (i := 17) rfl)
theorem ml_X4_63 : Cond.methodLink RX4 63 yX3_telling ∈ wsL_law := win_wsL_law_r12 _ (List.mem_of_getElem? (i := 18) rfl)
theorem im_X3_telling : Cond.instanceMethod yX3_telling ∈ wsL_law := win_wsL_law_r12 _ (List.mem_of_getElem? (i := 19) rfl)
theorem se_X3_telling : Cond.selects RX3 yX3_telling yX3_telling ∈ wsL_law := win_wsL_law_r12 _ (List.mem_of_getElem? (i := 20) rfl)
theorem co_X3_telling : Cond.code yX3_telling cX3_telling 1 (some .int) ∈ wsL_law := win_wsL_law_r12 _ (List.mem_of_getElem? (i := 21) rfl)
theorem ml_L_61 : Cond.methodLink RL 61 yX4_press ∈ wsL_law := win_wsL_law_r12 _ (List.mem_of_getElem? (i := 22) rfl)
theorem im_X4_press : Cond.instanceMethod yX4_press ∈ wsL_law := win_wsL_law_r12 _ (List.mem_of_getElem? (i := 23) rfl)
theorem se_X4_press : Cond.selects RX4 yX4_press yX4_press ∈ wsL_law := win_wsL_law_r13 _ (List.mem_of_getElem? (i := 0) rfl)
theorem co_X4_press : Cond.code yX4_press cX4_press 3 (some .int) ∈ wsL_law := win_wsL_law_r13 _ (List.mem_of_getElem? (i := 1) rfl)
theorem ml_X4_67 : Cond.methodLink RX4 67 yX3_refusalOfPress ∈ wsL_law := win_wsL_law_r13 _ (List.mem_of_getElem? (i := 2) rfl)
theorem im_X3_refusalOfPress : Cond.instanceMethod yX3_refusalOfPress ∈ wsL_law := win_wsL_law_r13 _ (List.mem_of_getElem? (i := 3) rfl)
theorem se_X3_refusalOfPress : Cond.selects RX3 yX3_refusalOfPress yX3_refusalOfPress ∈ wsL_law := win_wsL_law_r13 _ (List.mem_of_getElem? (i := 4) rfl)
theorem co_X3_refusalOfPress : Cond.code yX3_refusalOfPress cX3_refusalOfPress 2 (some .int) ∈ wsL_law := win_wsL_law_r13 _ (List.mem_of_getElem? (i := 5) rfl)
theorem ml_X3_92 : Cond.methodLink RX3 92 yX3_isButton ∈ wsL_law := win_wsL_law_r13 _ (List.mem_of_getElem? (i := 6) rfl)
theorem sm_X3_isButton : Cond.static yX3_isButton ∈ wsL_law := win_wsL_law_r13 _ (List.mem_of_getElem? (i := 7) rfl)
theorem co_X3_isButton : Cond.code yX3_isButton cX3_isButton 1 (some .boolean) ∈ wsL_law := win_wsL_law_r13 _ (List.mem_of_getElem? (i := 8) rfl)
theorem ml_X3_96 : Cond.methodLink RX3 96 yX3_isDown ∈ wsL_law := win_wsL_law_r13 _ (List.mem_of_getElem? (i := 9) rfl)
theorem im_X3_isDown : Cond.instanceMethod yX3_isDown ∈ wsL_law := win_wsL_law_r13 _ (List.mem_of_getElem? (i := 10) rfl)
theorem se_X3_isDown : Cond.selects RX3 yX3_isDown yX3_isDown ∈ wsL_law := win_wsL_law_r13 _ (List.mem_of_getElem? (i := 11) rfl)
theorem co_X3_isDown : Cond.code yX3_isDown cX3_isDown 2 (some .boolean) ∈ wsL_law := win_wsL_law_r13 _ (List.mem_of_getElem? (i := 12) rfl)
theorem ml_X4_71 : Cond.methodLink RX4 71 yX3_pushDown ∈ wsL_law := win_wsL_law_r13 _ (List.mem_of_getElem? (i := 13) rfl)
theorem im_X3_pushDown : Cond.instanceMethod yX3_pushDown ∈ wsL_law := win_wsL_law_r13 _ (List.mem_of_getElem? (i := 14) rfl)
theorem se_X3_pushDown : Cond.selects RX3 yX3_pushDown yX3_pushDown ∈ wsL_law := win_wsL_law_r13 _ (List.mem_of_getElem? (i := 15) rfl)
theorem co_X3_pushDown : Cond.code yX3_pushDown cX3_pushDown 2 (some .int) ∈ wsL_law := win_wsL_law_r13 _ (List.mem_of_getElem? (i := 16) rfl)
theorem ml_L_64 : Cond.methodLink RL 64 yX4_letUp ∈ wsL_law := win_wsL_law_r13 _ (List.mem_of_getElem? (i := 17) rfl)
theorem im_X4_letUp : Cond.instanceMethod yX4_letUp ∈ wsL_law := win_wsL_law_r13 _ (List.mem_of_getElem? (i := 18) rfl)
theorem se_X4_letUp : Cond.selects RX4 yX4_letUp yX4_letUp ∈ wsL_law := win_wsL_law_r13 _ (List.mem_of_getElem? (i := 19) rfl)
theorem co_X4_letUp : Cond.code yX4_letUp cX4_letUp 3 (some .int) ∈ wsL_law := win_wsL_law_r13 _ (List.mem_of_getElem? (i := 20) rfl)
theorem ml_X4_74 : Cond.methodLink RX4 74 yX3_refusalOfLetUp ∈ wsL_law := win_wsL_law_r13 _ (List.mem_of_getElem? (i := 21) rfl)
theorem im_X3_refusalOfLetUp : Cond.instanceMethod yX3_refusalOfLetUp ∈ wsL_law := win_wsL_law_r13 _ (List.mem_of_getElem? (i := 22) rfl)
theorem se_X3_refusalOfLetUp : Cond.selects RX3 yX3_refusalOfLetUp yX3_refusalOfLetUp ∈ wsL_law := win_wsL_law_r13 _ (List.mem_of_getElem? (i := 23) rfl)
theorem co_X3_refusalOfLetUp : Cond.code yX3_refusalOfLetUp cX3_refusalOfLetUp 2 (some .int) ∈ wsL_law := win_wsL_law_r14 _ (List.mem_of_getElem? (i := 0) rfl)
theorem ml_X4_77 : Cond.methodLink RX4 77 yX3_release ∈ wsL_law := win_wsL_law_r14 _ (List.mem_of_getElem? (i := 1) rfl)
theorem im_X3_release : Cond.instanceMethod yX3_release ∈ wsL_law := win_wsL_law_r14 _ (List.mem_of_getElem? (i := 2) rfl)
theorem se_X3_release : Cond.selects RX3 yX3_release yX3_release ∈ wsL_law := win_wsL_law_r14 _ (List.mem_of_getElem? (i := 3) rfl)
theorem co_X3_release : Cond.code yX3_release cX3_release 2 (some .int) ∈ wsL_law := win_wsL_law_r14 _ (List.mem_of_getElem? (i := 4) rfl)
theorem ml_L_67 : Cond.methodLink RL 67 yX4_reset ∈ wsL_law := win_wsL_law_r14 _ (List.mem_of_getElem? (i := 5) rfl)
theorem im_X4_reset : Cond.instanceMethod yX4_reset ∈ wsL_law := win_wsL_law_r14 _ (List.mem_of_getElem? (i := 6) rfl)
theorem se_X4_reset : Cond.selects RX4 yX4_reset yX4_reset ∈ wsL_law := win_wsL_law_r14 _ (List.mem_of_getElem? (i := 7) rfl)
theorem co_X4_reset : Cond.code yX4_reset cX4_reset 1 (some .int) ∈ wsL_law := win_wsL_law_r14 _ (List.mem_of_getElem? (i := 8) rfl)
theorem ml_X4_80 : Cond.methodLink RX4 80 yX3_toMiddle ∈ wsL_law := win_wsL_law_r14 _ (List.mem_of_getElem? (i := 9) rfl)
theorem im_X3_toMiddle : Cond.instanceMethod yX3_toMiddle ∈ wsL_law := win_wsL_law_r14 _ (List.mem_of_getElem? (i := 10) rfl)
theorem se_X3_toMiddle : Cond.selects RX3 yX3_toMiddle yX3_toMiddle ∈ wsL_law := win_wsL_law_r14 _ (List.mem_of_getElem? (i := 11) rfl)
theorem co_X3_toMiddle : Cond.code yX3_toMiddle cX3_toMiddle 2 (some .int) ∈ wsL_law := win_wsL_law_r14 _ (List.mem_of_getElem? (i := 12) rfl)
theorem ml_L_71 : Cond.methodLink RL 71 yX4_hold ∈ wsL_law := win_wsL_law_r14 _ (List.mem_of_getElem? (i := 13) rfl)
theorem im_X4_hold : Cond.instanceMethod yX4_hold ∈ wsL_law := win_wsL_law_r14 _ (List.mem_of_getElem? (i := 14) rfl)
theorem se_X4_hold : Cond.selects RX4 yX4_hold yX4_hold ∈ wsL_law := win_wsL_law_r14 _ (List.mem_of_getElem? (i := 15) rfl)
theorem co_X4_hold : Cond.code yX4_hold cX4_hold 4 (some .int) ∈ wsL_law := win_wsL_law_r14 _ (List.mem_of_getElem? (i := 16) rfl)
theorem ml_L_90 : Cond.methodLink RL 90 yL_isIn ∈ wsL_law := win_wsL_law_r14 _ (List.mem_of_getElem? (i := 17) rfl)
theorem sm_L_isIn : Cond.static yL_isIn ∈ wsL_law := win_wsL_law_r14 _ (List.mem_of_getElem? (i := 18) rfl)
theorem co_L_isIn : Cond.code yL_isIn cL_isIn 13 (some .boolean) ∈ wsL_law := win_wsL_law_r14 _ (List.mem_of_getElem? (i := 19) rfl)
theorem ml_L_38 : Cond.methodLink RL 38 yX4_driftsIn ∈ wsL_law := win_wsL_law_r14 _ (List.mem_of_getElem? (i := 20) rfl)
theorem im_X4_driftsIn : Cond.instanceMethod yX4_driftsIn ∈ wsL_law := win_wsL_law_r14 _ (List.mem_of_getElem? (i := 21) rfl)
theorem se_X4_driftsIn : Cond.selects RX4 yX4_driftsIn yX4_driftsIn ∈ wsL_law := win_wsL_law_r14 _ (List.mem_of_getElem? (i := 22) rfl)
theorem co_X4_driftsIn : Cond.code yX4_driftsIn cX4_driftsIn 4 (some .int) ∈ wsL_law := win_wsL_law_r14 _ (List.mem_of_getElem? (i := 23) rfl)
theorem ml_X4_130 : Cond.methodLink RX4 130 yX3_wouldDrift ∈ wsL_law := win_wsL_law_r15 _ (List.mem_of_getElem? (i := 0) rfl)
theorem ml_L_41 : Cond.methodLink RL 41 yX4_save ∈ wsL_law := win_wsL_law_r15 _ (List.mem_of_getElem? (i := 1) rfl)
theorem im_X4_save : Cond.instanceMethod yX4_save ∈ wsL_law := win_wsL_law_r15 _ (List.mem_of_getElem? (i := 2) rfl)
theorem se_X4_save : Cond.selects RX4 yX4_save yX4_save ∈ wsL_law := win_wsL_law_r15 _ (List.mem_of_getElem? (i := 3) rfl)
theorem co_X4_save : Cond.code yX4_save cX4_save 3 (some .int) ∈ wsL_law := win_wsL_law_r15 _ (List.mem_of_getElem? (i := 4) rfl)
theorem ml_L_44 : Cond.methodLink RL 44 yX4_restore ∈ wsL_law := win_wsL_law_r15 _ (List.mem_of_getElem? (i := 5) rfl)
theorem im_X4_restore : Cond.instanceMethod yX4_restore ∈ wsL_law := win_wsL_law_r15 _ (List.mem_of_getElem? (i := 6) rfl)
theorem se_X4_restore : Cond.selects RX4 yX4_restore yX4_restore ∈ wsL_law := win_wsL_law_r15 _ (List.mem_of_getElem? (i := 7) rfl)
theorem co_X4_restore : Cond.code yX4_restore cX4_restore 3 (some .int) ∈ wsL_law := win_wsL_law_r15 _ (List.mem_of_getElem? (i := 8) rfl)
theorem ml_L_93 : Cond.methodLink RL 93 yL_isEdge ∈ wsL_law := win_wsL_law_r15 _ (List.mem_of_getElem? (i := 9) rfl)
theorem sm_L_isEdge : Cond.static yL_isEdge ∈ wsL_law := win_wsL_law_r15 _ (List.mem_of_getElem? (i := 10) rfl)
theorem co_L_isEdge : Cond.code yL_isEdge cL_isEdge 10 (some .boolean) ∈ wsL_law := win_wsL_law_r15 _ (List.mem_of_getElem? (i := 11) rfl)
theorem ml_L_47 : Cond.methodLink RL 47 yX4_edge ∈ wsL_law := win_wsL_law_r15 _ (List.mem_of_getElem? (i := 12) rfl)
theorem im_X4_edge : Cond.instanceMethod yX4_edge ∈ wsL_law := win_wsL_law_r15 _ (List.mem_of_getElem? (i := 13) rfl)
theorem se_X4_edge : Cond.selects RX4 yX4_edge yX4_edge ∈ wsL_law := win_wsL_law_r15 _ (List.mem_of_getElem? (i := 14) rfl)
theorem co_X4_edge : Cond.code yX4_edge cX4_edge 7 (some .int) ∈ wsL_law := win_wsL_law_r15 _ (List.mem_of_getElem? (i := 15) rfl)
theorem ml_X4_121 : Cond.methodLink RX4 121 yX3_restPlaceX ∈ wsL_law := win_wsL_law_r15 _ (List.mem_of_getElem? (i := 16) rfl)
theorem ml_X4_124 : Cond.methodLink RX4 124 yX3_restPlaceY ∈ wsL_law := win_wsL_law_r15 _ (List.mem_of_getElem? (i := 17) rfl)
theorem ml_X4_127 : Cond.methodLink RX4 127 yX4_packed ∈ wsL_law := win_wsL_law_r15 _ (List.mem_of_getElem? (i := 18) rfl)
theorem ux_same : Cond.sameMethod "[I" "java/lang/Object" "clone" "()Ljava/lang/Object;" ∈ wsL_law := win_wsL_law_r2 _ (List.mem_of_getElem? (i := 5) rfl)
theorem ux_nat : Cond.native ⟨"java/lang/Object", "clone", "()Ljava/lang/Object;"⟩ ∈ wsL_law := win_wsL_law_r2 _ (List.mem_of_getElem? (i := 6) rfl)
theorem ux_inst : Cond.instanceMethod ⟨"java/lang/Object", "clone", "()Ljava/lang/Object;"⟩ ∈ wsL_law := win_wsL_law_r2 _ (List.mem_of_getElem? (i := 7) rfl)
theorem ux_sel : Cond.selects "[I" ⟨"[I", "clone", "()Ljava/lang/Object;"⟩ ⟨"java/lang/Object", "clone", "()Ljava/lang/Object;"⟩ ∈ wsL_law := win_wsL_law_r2 _ (List.mem_of_getElem? (i := 8) rfl)
theorem ux_cnat : Cond.native arraycopyName ∈ wsL_law := win_wsL_law_r8 _ (List.mem_of_getElem? (i := 5) rfl)
theorem um_math : Cond.initialized "java/lang/Math" ∈ wsL_law := it_RJ9
theorem um_max_st : Cond.static Lib.Math.max.name ∈ wsL_law := sm_Lib_Math_max_name
theorem um_max_code : Cond.code Lib.Math.max.name Lib.Math.max.code 2 (some .int) ∈ wsL_law := co_Lib_Math_max_name
theorem um_min_st : Cond.static Lib.Math.min.name ∈ wsL_law := sm_Lib_Math_min_name
theorem um_min_code : Cond.code Lib.Math.min.name Lib.Math.min.code 2 (some .int) ∈ wsL_law := co_Lib_Math_min_name
theorem um_abs_st : Cond.static Lib.Math.abs.name ∈ wsL_law := sm_Lib_Math_abs_name
theorem um_abs_code : Cond.code Lib.Math.abs.name Lib.Math.abs.code 1 (some .int) ∈ wsL_law := co_Lib_Math_abs_name
theorem um_obj_in : Cond.instanceMethod objectInit ∈ wsL_law := im_objectInit
theorem um_obj_code : Cond.code objectInit ⟨#[0xb1]⟩ 1 none ∈ wsL_law := co_objectInit
set_option maxRecDepth 20000 in
theorem wg_wsL_law_r1 : ∀ w ∈ wsL_law_r1, goodWord w = true := List.all_eq_true.mp (by decide +kernel)
set_option maxRecDepth 20000 in
theorem wg_wsL_law_r2 : ∀ w ∈ wsL_law_r2, goodWord w = true := List.all_eq_true.mp (by decide +kernel)
set_option maxRecDepth 20000 in
theorem wg_wsL_law_r3 : ∀ w ∈ wsL_law_r3, goodWord w = true := List.all_eq_true.mp (by decide +kernel)
set_option maxRecDepth 20000 in
theorem wg_wsL_law_r4 : ∀ w ∈ wsL_law_r4, goodWord w = true := List.all_eq_true.mp (by decide +kernel)
set_option maxRecDepth 20000 in
theorem wg_wsL_law_r5 : ∀ w ∈ wsL_law_r5, goodWord w = true := List.all_eq_true.mp (by decide +kernel)
set_option maxRecDepth 20000 in
theorem wg_wsL_law_r6 : ∀ w ∈ wsL_law_r6, goodWord w = true := List.all_eq_true.mp (by decide +kernel)
set_option maxRecDepth 20000 in
theorem wg_wsL_law_r7 : ∀ w ∈ wsL_law_r7, goodWord w = true := List.all_eq_true.mp (by decide +kernel)
set_option maxRecDepth 20000 in
theorem wg_wsL_law_r8 : ∀ w ∈ wsL_law_r8, goodWord w = true := List.all_eq_true.mp (by decide +kernel)
set_option maxRecDepth 20000 in
theorem wg_wsL_law_r9 : ∀ w ∈ wsL_law_r9, goodWord w = true := List.all_eq_true.mp (by decide +kernel)
set_option maxRecDepth 20000 in
theorem wg_wsL_law_r10 : ∀ w ∈ wsL_law_r10, goodWord w = true := List.all_eq_true.mp (by decide +kernel)
set_option maxRecDepth 20000 in
theorem wg_wsL_law_r11 : ∀ w ∈ wsL_law_r11, goodWord w = true := List.all_eq_true.mp (by decide +kernel)
set_option maxRecDepth 20000 in
theorem wg_wsL_law_r12 : ∀ w ∈ wsL_law_r12, goodWord w = true := List.all_eq_true.mp (by decide +kernel)
set_option maxRecDepth 20000 in
theorem wg_wsL_law_r13 : ∀ w ∈ wsL_law_r13, goodWord w = true := List.all_eq_true.mp (by decide +kernel)
set_option maxRecDepth 20000 in
theorem wg_wsL_law_r14 : ∀ w ∈ wsL_law_r14, goodWord w = true := List.all_eq_true.mp (by decide +kernel)
set_option maxRecDepth 20000 in
theorem wg_wsL_law_r15 : ∀ w ∈ wsL_law_r15, goodWord w = true := List.all_eq_true.mp (by decide +kernel)
set_option maxRecDepth 20000 in
theorem wg_wsX40 : ∀ w ∈ wsX40, goodWord w = true := List.all_eq_true.mp (by decide +kernel)
set_option maxRecDepth 20000 in
theorem wg_wsX30 : ∀ w ∈ wsX30, goodWord w = true := List.all_eq_true.mp (by decide +kernel)
set_option maxRecDepth 20000 in
theorem wg_wsX20 : ∀ w ∈ wsX20, goodWord w = true := List.all_eq_true.mp (by decide +kernel)
set_option maxRecDepth 20000 in
theorem wg_wsX10 : ∀ w ∈ wsX10, goodWord w = true := List.all_eq_true.mp (by decide +kernel)
set_option maxRecDepth 20000 in
theorem wg_wsX00 : ∀ w ∈ wsX00, goodWord w = true := List.all_eq_true.mp (by decide +kernel)
theorem wg_all : ∀ w ∈ wsL_law, goodWord w = true := List.forall_mem_append.mpr ⟨List.forall_mem_append.mpr ⟨List.forall_mem_append.mpr ⟨List.forall_mem_append.mpr ⟨List.forall_mem_append.mpr ⟨List.forall_mem_append.mpr ⟨List.forall_mem_append.mpr ⟨wg_wsL_law_r1, List.forall_mem_append.mpr ⟨wg_wsL_law_r2, List.forall_mem_append.mpr ⟨wg_wsL_law_r3, List.forall_mem_append.mpr ⟨wg_wsL_law_r4, List.forall_mem_append.mpr ⟨wg_wsL_law_r5, List.forall_mem_append.mpr ⟨wg_wsL_law_r6, List.forall_mem_append.mpr ⟨wg_wsL_law_r7, List.forall_mem_append.mpr ⟨wg_wsL_law_r8, List.forall_mem_append.mpr ⟨wg_wsL_law_r9, List.forall_mem_append.mpr ⟨wg_wsL_law_r10, List.forall_mem_append.mpr ⟨wg_wsL_law_r11, List.forall_mem_append.mpr ⟨wg_wsL_law_r12, List.forall_mem_append.mpr ⟨wg_wsL_law_r13, List.forall_mem_append.mpr ⟨wg_wsL_law_r14, wg_wsL_law_r15⟩⟩⟩⟩⟩⟩⟩⟩⟩⟩⟩⟩⟩⟩, wg_wsX40⟩, wg_wsX30⟩, wg_wsX20⟩, wg_wsX10⟩, wg_wsX00⟩, fun _ h => absurd h List.not_mem_nil⟩
/-- a method's words: its code, and all words of the law -/
def uw (y : MethodName) (cb : ByteArray) (maxL : Nat) (ret : Option FieldType) : List Cond := .code y cb maxL ret :: wsL_law
theorem uw_good {y : MethodName} {cb : ByteArray} {maxL : Nat} {ret : Option FieldType} (h : Cond.code y cb maxL ret ∈ wsL_law) : GoodIn wsL_law (uw y cb maxL ret) := by
  intro w hw
  have hm : w ∈ wsL_law := by
    rcases List.mem_cons.mp hw with rfl | h1
    · exact h
    · exact h1
  exact ⟨hm, good_of_word (wg_all w hm)⟩
end
section
theorem dX0_init_0 : decode cX0_init 0 = .ok (.aload_n 0, 1) := by decide +kernel
theorem dX0_init_1 : decode cX0_init 1 = .ok (.invokespecial 3, 3) := by decide +kernel
theorem dX0_init_4 : decode cX0_init 4 = .ok (.aload_n 0, 1) := by decide +kernel
theorem dX0_init_5 : decode cX0_init 5 = .ok (.bipush 9, 2) := by decide +kernel
theorem dX0_init_7 : decode cX0_init 7 = .ok (.newarray .int, 2) := by decide +kernel
theorem dX0_init_9 : decode cX0_init 9 = .ok (.putfield 9, 3) := by decide +kernel
theorem dX0_init_12 : decode cX0_init 12 = .ok (.aload_n 0, 1) := by decide +kernel
theorem dX0_init_13 : decode cX0_init 13 = .ok (.bipush 9, 2) := by decide +kernel
theorem dX0_init_15 : decode cX0_init 15 = .ok (.newarray .int, 2) := by decide +kernel
theorem dX0_init_17 : decode cX0_init 17 = .ok (.putfield 15, 3) := by decide +kernel
theorem dX0_init_20 : decode cX0_init 20 = .ok (.aload_n 0, 1) := by decide +kernel
theorem dX0_init_21 : decode cX0_init 21 = .ok (.bipush 9, 2) := by decide +kernel
theorem dX0_init_23 : decode cX0_init 23 = .ok (.newarray .int, 2) := by decide +kernel
theorem dX0_init_25 : decode cX0_init 25 = .ok (.putfield 18, 3) := by decide +kernel
theorem dX0_init_28 : decode cX0_init 28 = .ok (.aload_n 0, 1) := by decide +kernel
theorem dX0_init_29 : decode cX0_init 29 = .ok (.bipush (-6), 2) := by decide +kernel
theorem dX0_init_31 : decode cX0_init 31 = .ok (.putfield 21, 3) := by decide +kernel
theorem dX0_init_34 : decode cX0_init 34 = .ok (.return_, 1) := by decide +kernel
theorem dX0_becomeLike_0 : decode cX0_becomeLike 0 = .ok (.aload_n 1, 1) := by decide +kernel
theorem dX0_becomeLike_1 : decode cX0_becomeLike 1 = .ok (.getfield 9, 3) := by decide +kernel
theorem dX0_becomeLike_4 : decode cX0_becomeLike 4 = .ok (.iconst 0, 1) := by decide +kernel
theorem dX0_becomeLike_5 : decode cX0_becomeLike 5 = .ok (.aload_n 0, 1) := by decide +kernel
theorem dX0_becomeLike_6 : decode cX0_becomeLike 6 = .ok (.getfield 9, 3) := by decide +kernel
theorem dX0_becomeLike_9 : decode cX0_becomeLike 9 = .ok (.iconst 0, 1) := by decide +kernel
theorem dX0_becomeLike_10 : decode cX0_becomeLike 10 = .ok (.bipush 9, 2) := by decide +kernel
theorem dX0_becomeLike_12 : decode cX0_becomeLike 12 = .ok (.invokestatic 25, 3) := by decide +kernel
theorem dX0_becomeLike_15 : decode cX0_becomeLike 15 = .ok (.aload_n 1, 1) := by decide +kernel
theorem dX0_becomeLike_16 : decode cX0_becomeLike 16 = .ok (.getfield 15, 3) := by decide +kernel
theorem dX0_becomeLike_19 : decode cX0_becomeLike 19 = .ok (.iconst 0, 1) := by decide +kernel
theorem dX0_becomeLike_20 : decode cX0_becomeLike 20 = .ok (.aload_n 0, 1) := by decide +kernel
theorem dX0_becomeLike_21 : decode cX0_becomeLike 21 = .ok (.getfield 15, 3) := by decide +kernel
theorem dX0_becomeLike_24 : decode cX0_becomeLike 24 = .ok (.iconst 0, 1) := by decide +kernel
theorem dX0_becomeLike_25 : decode cX0_becomeLike 25 = .ok (.bipush 9, 2) := by decide +kernel
theorem dX0_becomeLike_27 : decode cX0_becomeLike 27 = .ok (.invokestatic 25, 3) := by decide +kernel
theorem dX0_becomeLike_30 : decode cX0_becomeLike 30 = .ok (.aload_n 1, 1) := by decide +kernel
theorem dX0_becomeLike_31 : decode cX0_becomeLike 31 = .ok (.getfield 18, 3) := by decide +kernel
theorem dX0_becomeLike_34 : decode cX0_becomeLike 34 = .ok (.iconst 0, 1) := by decide +kernel
theorem dX0_becomeLike_35 : decode cX0_becomeLike 35 = .ok (.aload_n 0, 1) := by decide +kernel
theorem dX0_becomeLike_36 : decode cX0_becomeLike 36 = .ok (.getfield 18, 3) := by decide +kernel
theorem dX0_becomeLike_39 : decode cX0_becomeLike 39 = .ok (.iconst 0, 1) := by decide +kernel
theorem dX0_becomeLike_40 : decode cX0_becomeLike 40 = .ok (.bipush 9, 2) := by decide +kernel
theorem dX0_becomeLike_42 : decode cX0_becomeLike 42 = .ok (.invokestatic 25, 3) := by decide +kernel
theorem dX0_becomeLike_45 : decode cX0_becomeLike 45 = .ok (.aload_n 0, 1) := by decide +kernel
theorem dX0_becomeLike_46 : decode cX0_becomeLike 46 = .ok (.aload_n 1, 1) := by decide +kernel
theorem dX0_becomeLike_47 : decode cX0_becomeLike 47 = .ok (.getfield 31, 3) := by decide +kernel
theorem dX0_becomeLike_50 : decode cX0_becomeLike 50 = .ok (.putfield 31, 3) := by decide +kernel
theorem dX0_becomeLike_53 : decode cX0_becomeLike 53 = .ok (.aload_n 0, 1) := by decide +kernel
theorem dX0_becomeLike_54 : decode cX0_becomeLike 54 = .ok (.aload_n 1, 1) := by decide +kernel
theorem dX0_becomeLike_55 : decode cX0_becomeLike 55 = .ok (.getfield 21, 3) := by decide +kernel
theorem dX0_becomeLike_58 : decode cX0_becomeLike 58 = .ok (.putfield 21, 3) := by decide +kernel
theorem dX0_becomeLike_61 : decode cX0_becomeLike 61 = .ok (.aload_n 0, 1) := by decide +kernel
theorem dX0_becomeLike_62 : decode cX0_becomeLike 62 = .ok (.aload_n 1, 1) := by decide +kernel
theorem dX0_becomeLike_63 : decode cX0_becomeLike 63 = .ok (.getfield 34, 3) := by decide +kernel
theorem dX0_becomeLike_66 : decode cX0_becomeLike 66 = .ok (.putfield 34, 3) := by decide +kernel
theorem dX0_becomeLike_69 : decode cX0_becomeLike 69 = .ok (.return_, 1) := by decide +kernel
theorem dX0_note_0 : decode cX0_note 0 = .ok (.iconst 3, 1) := by decide +kernel
theorem dX0_note_1 : decode cX0_note 1 = .ok (.iload_n 1, 1) := by decide +kernel
theorem dX0_note_2 : decode cX0_note 2 = .ok (.iconst 1, 1) := by decide +kernel
theorem dX0_note_3 : decode cX0_note 3 = .ok (.iadd, 1) := by decide +kernel
theorem dX0_note_4 : decode cX0_note 4 = .ok (.imul, 1) := by decide +kernel
theorem dX0_note_5 : decode cX0_note 5 = .ok (.iload_n 2, 1) := by decide +kernel
theorem dX0_note_6 : decode cX0_note 6 = .ok (.iadd, 1) := by decide +kernel
theorem dX0_note_7 : decode cX0_note 7 = .ok (.iconst 1, 1) := by decide +kernel
theorem dX0_note_8 : decode cX0_note 8 = .ok (.iadd, 1) := by decide +kernel
theorem dX0_note_9 : decode cX0_note 9 = .ok (.istore_n 3, 1) := by decide +kernel
theorem dX0_note_10 : decode cX0_note 10 = .ok (.iload_n 3, 1) := by decide +kernel
theorem dX0_note_11 : decode cX0_note 11 = .ok (.ifCond .lt 9, 3) := by decide +kernel
theorem dX0_note_14 : decode cX0_note 14 = .ok (.iload_n 3, 1) := by decide +kernel
theorem dX0_note_15 : decode cX0_note 15 = .ok (.bipush 9, 2) := by decide +kernel
theorem dX0_note_17 : decode cX0_note 17 = .ok (.if_icmp .lt 4, 3) := by decide +kernel
theorem dX0_note_20 : decode cX0_note 20 = .ok (.return_, 1) := by decide +kernel
theorem dX0_note_21 : decode cX0_note 21 = .ok (.aload_n 0, 1) := by decide +kernel
theorem dX0_note_22 : decode cX0_note 22 = .ok (.getfield 15, 3) := by decide +kernel
theorem dX0_note_25 : decode cX0_note 25 = .ok (.iload_n 3, 1) := by decide +kernel
theorem dX0_note_26 : decode cX0_note 26 = .ok (.iaload, 1) := by decide +kernel
theorem dX0_note_27 : decode cX0_note 27 = .ok (.ifCond .ne 32, 3) := by decide +kernel
theorem dX0_note_30 : decode cX0_note 30 = .ok (.aload_n 0, 1) := by decide +kernel
theorem dX0_note_31 : decode cX0_note 31 = .ok (.getfield 31, 3) := by decide +kernel
theorem dX0_note_34 : decode cX0_note 34 = .ok (.bipush 9, 2) := by decide +kernel
theorem dX0_note_36 : decode cX0_note 36 = .ok (.if_icmp .ge 23, 3) := by decide +kernel
theorem dX0_note_39 : decode cX0_note 39 = .ok (.aload_n 0, 1) := by decide +kernel
theorem dX0_note_40 : decode cX0_note 40 = .ok (.getfield 9, 3) := by decide +kernel
theorem dX0_note_43 : decode cX0_note 43 = .ok (.aload_n 0, 1) := by decide +kernel
theorem dX0_note_44 : decode cX0_note 44 = .ok (.getfield 31, 3) := by decide +kernel
theorem dX0_note_47 : decode cX0_note 47 = .ok (.iload_n 3, 1) := by decide +kernel
theorem dX0_note_48 : decode cX0_note 48 = .ok (.iastore, 1) := by decide +kernel
theorem dX0_note_49 : decode cX0_note 49 = .ok (.aload_n 0, 1) := by decide +kernel
theorem dX0_note_50 : decode cX0_note 50 = .ok (.dup, 1) := by decide +kernel
theorem dX0_note_51 : decode cX0_note 51 = .ok (.getfield 31, 3) := by decide +kernel
theorem dX0_note_54 : decode cX0_note 54 = .ok (.iconst 1, 1) := by decide +kernel
theorem dX0_note_55 : decode cX0_note 55 = .ok (.iadd, 1) := by decide +kernel
theorem dX0_note_56 : decode cX0_note 56 = .ok (.putfield 31, 3) := by decide +kernel
theorem dX0_note_59 : decode cX0_note 59 = .ok (.aload_n 0, 1) := by decide +kernel
theorem dX0_note_60 : decode cX0_note 60 = .ok (.iload_n 3, 1) := by decide +kernel
theorem dX0_note_61 : decode cX0_note 61 = .ok (.aload_n 0, 1) := by decide +kernel
theorem dX0_note_62 : decode cX0_note 62 = .ok (.getfield 21, 3) := by decide +kernel
theorem dX0_note_65 : decode cX0_note 65 = .ok (.if_icmp .ne 12, 3) := by decide +kernel
theorem dX0_note_68 : decode cX0_note 68 = .ok (.aload_n 0, 1) := by decide +kernel
theorem dX0_note_69 : decode cX0_note 69 = .ok (.getfield 34, 3) := by decide +kernel
theorem dX0_note_72 : decode cX0_note 72 = .ok (.iconst 1, 1) := by decide +kernel
theorem dX0_note_73 : decode cX0_note 73 = .ok (.iadd, 1) := by decide +kernel
theorem dX0_note_74 : decode cX0_note 74 = .ok (.goto 4, 3) := by decide +kernel
theorem dX0_note_77 : decode cX0_note 77 = .ok (.iconst 1, 1) := by decide +kernel
theorem dX0_note_78 : decode cX0_note 78 = .ok (.putfield 34, 3) := by decide +kernel
theorem dX0_note_81 : decode cX0_note 81 = .ok (.aload_n 0, 1) := by decide +kernel
theorem dX0_note_82 : decode cX0_note 82 = .ok (.iload_n 3, 1) := by decide +kernel
theorem dX0_note_83 : decode cX0_note 83 = .ok (.putfield 21, 3) := by decide +kernel
theorem dX0_note_86 : decode cX0_note 86 = .ok (.aload_n 0, 1) := by decide +kernel
theorem dX0_note_87 : decode cX0_note 87 = .ok (.getfield 15, 3) := by decide +kernel
theorem dX0_note_90 : decode cX0_note 90 = .ok (.iload_n 3, 1) := by decide +kernel
theorem dX0_note_91 : decode cX0_note 91 = .ok (.dup2, 1) := by decide +kernel
theorem dX0_note_92 : decode cX0_note 92 = .ok (.iaload, 1) := by decide +kernel
theorem dX0_note_93 : decode cX0_note 93 = .ok (.iconst 1, 1) := by decide +kernel
theorem dX0_note_94 : decode cX0_note 94 = .ok (.iadd, 1) := by decide +kernel
theorem dX0_note_95 : decode cX0_note 95 = .ok (.iastore, 1) := by decide +kernel
theorem dX0_note_96 : decode cX0_note 96 = .ok (.aload_n 0, 1) := by decide +kernel
theorem dX0_note_97 : decode cX0_note 97 = .ok (.getfield 18, 3) := by decide +kernel
theorem dX0_note_100 : decode cX0_note 100 = .ok (.iload_n 3, 1) := by decide +kernel
theorem dX0_note_101 : decode cX0_note 101 = .ok (.aload_n 0, 1) := by decide +kernel
theorem dX0_note_102 : decode cX0_note 102 = .ok (.getfield 18, 3) := by decide +kernel
theorem dX0_note_105 : decode cX0_note 105 = .ok (.iload_n 3, 1) := by decide +kernel
theorem dX0_note_106 : decode cX0_note 106 = .ok (.iaload, 1) := by decide +kernel
theorem dX0_note_107 : decode cX0_note 107 = .ok (.aload_n 0, 1) := by decide +kernel
theorem dX0_note_108 : decode cX0_note 108 = .ok (.getfield 34, 3) := by decide +kernel
theorem dX0_note_111 : decode cX0_note 111 = .ok (.invokestatic 37, 3) := by decide +kernel
theorem dX0_note_114 : decode cX0_note 114 = .ok (.iastore, 1) := by decide +kernel
theorem dX0_note_115 : decode cX0_note 115 = .ok (.return_, 1) := by decide +kernel
theorem dX0_about_0 : decode cX0_about 0 = .ok (.iload_n 1, 1) := by decide +kernel
theorem dX0_about_1 : decode cX0_about 1 = .ok (.ifCond .lt 17, 3) := by decide +kernel
theorem dX0_about_4 : decode cX0_about 4 = .ok (.iload_n 1, 1) := by decide +kernel
theorem dX0_about_5 : decode cX0_about 5 = .ok (.aload_n 0, 1) := by decide +kernel
theorem dX0_about_6 : decode cX0_about 6 = .ok (.getfield 31, 3) := by decide +kernel
theorem dX0_about_9 : decode cX0_about 9 = .ok (.if_icmp .ge 9, 3) := by decide +kernel
theorem dX0_about_12 : decode cX0_about 12 = .ok (.iload_n 1, 1) := by decide +kernel
theorem dX0_about_13 : decode cX0_about 13 = .ok (.bipush 9, 2) := by decide +kernel
theorem dX0_about_15 : decode cX0_about 15 = .ok (.if_icmp .lt 5, 3) := by decide +kernel
theorem dX0_about_18 : decode cX0_about 18 = .ok (.iconst (-1), 1) := by decide +kernel
theorem dX0_about_19 : decode cX0_about 19 = .ok (.ireturn, 1) := by decide +kernel
theorem dX0_about_20 : decode cX0_about 20 = .ok (.aload_n 0, 1) := by decide +kernel
theorem dX0_about_21 : decode cX0_about 21 = .ok (.getfield 9, 3) := by decide +kernel
theorem dX0_about_24 : decode cX0_about 24 = .ok (.iload_n 1, 1) := by decide +kernel
theorem dX0_about_25 : decode cX0_about 25 = .ok (.iaload, 1) := by decide +kernel
theorem dX0_about_26 : decode cX0_about 26 = .ok (.istore_n 3, 1) := by decide +kernel
theorem dX0_about_27 : decode cX0_about 27 = .ok (.iload_n 3, 1) := by decide +kernel
theorem dX0_about_28 : decode cX0_about 28 = .ok (.ifCond .lt 9, 3) := by decide +kernel
theorem dX0_about_31 : decode cX0_about 31 = .ok (.iload_n 3, 1) := by decide +kernel
theorem dX0_about_32 : decode cX0_about 32 = .ok (.bipush 9, 2) := by decide +kernel
theorem dX0_about_34 : decode cX0_about 34 = .ok (.if_icmp .lt 5, 3) := by decide +kernel
theorem dX0_about_37 : decode cX0_about 37 = .ok (.iconst (-1), 1) := by decide +kernel
theorem dX0_about_38 : decode cX0_about 38 = .ok (.ireturn, 1) := by decide +kernel
theorem dX0_about_39 : decode cX0_about 39 = .ok (.iload_n 2, 1) := by decide +kernel
theorem dX0_about_40 : decode cX0_about 40 = .ok (.tableswitch 54 0 3 #[32, 36, 40, 47], 32) := by decide +kernel
theorem dX0_about_72 : decode cX0_about 72 = .ok (.iload_n 3, 1) := by decide +kernel
theorem dX0_about_73 : decode cX0_about 73 = .ok (.iconst 3, 1) := by decide +kernel
theorem dX0_about_74 : decode cX0_about 74 = .ok (.idiv, 1) := by decide +kernel
theorem dX0_about_75 : decode cX0_about 75 = .ok (.ireturn, 1) := by decide +kernel
theorem dX0_about_76 : decode cX0_about 76 = .ok (.iload_n 3, 1) := by decide +kernel
theorem dX0_about_77 : decode cX0_about 77 = .ok (.iconst 3, 1) := by decide +kernel
theorem dX0_about_78 : decode cX0_about 78 = .ok (.irem, 1) := by decide +kernel
theorem dX0_about_79 : decode cX0_about 79 = .ok (.ireturn, 1) := by decide +kernel
theorem dX0_about_80 : decode cX0_about 80 = .ok (.aload_n 0, 1) := by decide +kernel
theorem dX0_about_81 : decode cX0_about 81 = .ok (.getfield 15, 3) := by decide +kernel
theorem dX0_about_84 : decode cX0_about 84 = .ok (.iload_n 3, 1) := by decide +kernel
theorem dX0_about_85 : decode cX0_about 85 = .ok (.iaload, 1) := by decide +kernel
theorem dX0_about_86 : decode cX0_about 86 = .ok (.ireturn, 1) := by decide +kernel
theorem dX0_about_87 : decode cX0_about 87 = .ok (.aload_n 0, 1) := by decide +kernel
theorem dX0_about_88 : decode cX0_about 88 = .ok (.getfield 18, 3) := by decide +kernel
theorem dX0_about_91 : decode cX0_about 91 = .ok (.iload_n 3, 1) := by decide +kernel
theorem dX0_about_92 : decode cX0_about 92 = .ok (.iaload, 1) := by decide +kernel
theorem dX0_about_93 : decode cX0_about 93 = .ok (.ireturn, 1) := by decide +kernel
theorem dX0_about_94 : decode cX0_about 94 = .ok (.bipush (-2), 2) := by decide +kernel
theorem dX0_about_96 : decode cX0_about 96 = .ok (.ireturn, 1) := by decide +kernel
theorem dX1_init_0 : decode cX1_init 0 = .ok (.aload_n 0, 1) := by decide +kernel
theorem dX1_init_1 : decode cX1_init 1 = .ok (.invokespecial 3, 3) := by decide +kernel
theorem dX1_init_4 : decode cX1_init 4 = .ok (.aload_n 0, 1) := by decide +kernel
theorem dX1_init_5 : decode cX1_init 5 = .ok (.bipush 6, 2) := by decide +kernel
theorem dX1_init_7 : decode cX1_init 7 = .ok (.anewarray 9, 3) := by decide +kernel
theorem dX1_init_10 : decode cX1_init 10 = .ok (.putfield 11, 3) := by decide +kernel
theorem dX1_init_13 : decode cX1_init 13 = .ok (.return_, 1) := by decide +kernel
theorem dX1_placeOf_0 : decode cX1_placeOf 0 = .ok (.aload_n 0, 1) := by decide +kernel
theorem dX1_placeOf_1 : decode cX1_placeOf 1 = .ok (.getfield 17, 3) := by decide +kernel
theorem dX1_placeOf_4 : decode cX1_placeOf 4 = .ok (.iload_n 1, 1) := by decide +kernel
theorem dX1_placeOf_5 : decode cX1_placeOf 5 = .ok (.iadd, 1) := by decide +kernel
theorem dX1_placeOf_6 : decode cX1_placeOf 6 = .ok (.bipush 6, 2) := by decide +kernel
theorem dX1_placeOf_8 : decode cX1_placeOf 8 = .ok (.invokestatic 21, 3) := by decide +kernel
theorem dX1_placeOf_11 : decode cX1_placeOf 11 = .ok (.ireturn, 1) := by decide +kernel
theorem dX1_keep_0 : decode cX1_keep 0 = .ok (.aload_n 0, 1) := by decide +kernel
theorem dX1_keep_1 : decode cX1_keep 1 = .ok (.aload_n 0, 1) := by decide +kernel
theorem dX1_keep_2 : decode cX1_keep 2 = .ok (.getfield 27, 3) := by decide +kernel
theorem dX1_keep_5 : decode cX1_keep 5 = .ok (.invokevirtual 30, 3) := by decide +kernel
theorem dX1_keep_8 : decode cX1_keep 8 = .ok (.istore_n 2, 1) := by decide +kernel
theorem dX1_keep_9 : decode cX1_keep 9 = .ok (.iload_n 2, 1) := by decide +kernel
theorem dX1_keep_10 : decode cX1_keep 10 = .ok (.ifCond .lt 12, 3) := by decide +kernel
theorem dX1_keep_13 : decode cX1_keep 13 = .ok (.iload_n 2, 1) := by decide +kernel
theorem dX1_keep_14 : decode cX1_keep 14 = .ok (.aload_n 0, 1) := by decide +kernel
theorem dX1_keep_15 : decode cX1_keep 15 = .ok (.getfield 11, 3) := by decide +kernel
theorem dX1_keep_18 : decode cX1_keep 18 = .ok (.arraylength, 1) := by decide +kernel
theorem dX1_keep_19 : decode cX1_keep 19 = .ok (.if_icmp .lt 4, 3) := by decide +kernel
theorem dX1_keep_22 : decode cX1_keep 22 = .ok (.return_, 1) := by decide +kernel
theorem dX1_keep_23 : decode cX1_keep 23 = .ok (.aload_n 0, 1) := by decide +kernel
theorem dX1_keep_24 : decode cX1_keep 24 = .ok (.getfield 11, 3) := by decide +kernel
theorem dX1_keep_27 : decode cX1_keep 27 = .ok (.iload_n 2, 1) := by decide +kernel
theorem dX1_keep_28 : decode cX1_keep 28 = .ok (.aaload, 1) := by decide +kernel
theorem dX1_keep_29 : decode cX1_keep 29 = .ok (.astore_n 3, 1) := by decide +kernel
theorem dX1_keep_30 : decode cX1_keep 30 = .ok (.aload_n 3, 1) := by decide +kernel
theorem dX1_keep_31 : decode cX1_keep 31 = .ok (.ifnonnull 18, 3) := by decide +kernel
theorem dX1_keep_34 : decode cX1_keep 34 = .ok (.new 9, 3) := by decide +kernel
theorem dX1_keep_37 : decode cX1_keep 37 = .ok (.dup, 1) := by decide +kernel
theorem dX1_keep_38 : decode cX1_keep 38 = .ok (.invokespecial 34, 3) := by decide +kernel
theorem dX1_keep_41 : decode cX1_keep 41 = .ok (.astore_n 3, 1) := by decide +kernel
theorem dX1_keep_42 : decode cX1_keep 42 = .ok (.aload_n 0, 1) := by decide +kernel
theorem dX1_keep_43 : decode cX1_keep 43 = .ok (.getfield 11, 3) := by decide +kernel
theorem dX1_keep_46 : decode cX1_keep 46 = .ok (.iload_n 2, 1) := by decide +kernel
theorem dX1_keep_47 : decode cX1_keep 47 = .ok (.aload_n 3, 1) := by decide +kernel
theorem dX1_keep_48 : decode cX1_keep 48 = .ok (.aastore, 1) := by decide +kernel
theorem dX1_keep_49 : decode cX1_keep 49 = .ok (.aload_n 3, 1) := by decide +kernel
theorem dX1_keep_50 : decode cX1_keep 50 = .ok (.aload_n 1, 1) := by decide +kernel
theorem dX1_keep_51 : decode cX1_keep 51 = .ok (.invokevirtual 35, 3) := by decide +kernel
theorem dX1_keep_54 : decode cX1_keep 54 = .ok (.aload_n 0, 1) := by decide +kernel
theorem dX1_keep_55 : decode cX1_keep 55 = .ok (.getfield 27, 3) := by decide +kernel
theorem dX1_keep_58 : decode cX1_keep 58 = .ok (.bipush 6, 2) := by decide +kernel
theorem dX1_keep_60 : decode cX1_keep 60 = .ok (.if_icmp .ge 16, 3) := by decide +kernel
theorem dX1_keep_63 : decode cX1_keep 63 = .ok (.aload_n 0, 1) := by decide +kernel
theorem dX1_keep_64 : decode cX1_keep 64 = .ok (.dup, 1) := by decide +kernel
theorem dX1_keep_65 : decode cX1_keep 65 = .ok (.getfield 27, 3) := by decide +kernel
theorem dX1_keep_68 : decode cX1_keep 68 = .ok (.iconst 1, 1) := by decide +kernel
theorem dX1_keep_69 : decode cX1_keep 69 = .ok (.iadd, 1) := by decide +kernel
theorem dX1_keep_70 : decode cX1_keep 70 = .ok (.putfield 27, 3) := by decide +kernel
theorem dX1_keep_73 : decode cX1_keep 73 = .ok (.goto 12, 3) := by decide +kernel
theorem dX1_keep_76 : decode cX1_keep 76 = .ok (.aload_n 0, 1) := by decide +kernel
theorem dX1_keep_77 : decode cX1_keep 77 = .ok (.aload_n 0, 1) := by decide +kernel
theorem dX1_keep_78 : decode cX1_keep 78 = .ok (.iconst 1, 1) := by decide +kernel
theorem dX1_keep_79 : decode cX1_keep 79 = .ok (.invokevirtual 30, 3) := by decide +kernel
theorem dX1_keep_82 : decode cX1_keep 82 = .ok (.putfield 17, 3) := by decide +kernel
theorem dX1_keep_85 : decode cX1_keep 85 = .ok (.return_, 1) := by decide +kernel
theorem dX1_takeBack_0 : decode cX1_takeBack 0 = .ok (.aload_n 0, 1) := by decide +kernel
theorem dX1_takeBack_1 : decode cX1_takeBack 1 = .ok (.aload_n 0, 1) := by decide +kernel
theorem dX1_takeBack_2 : decode cX1_takeBack 2 = .ok (.getfield 27, 3) := by decide +kernel
theorem dX1_takeBack_5 : decode cX1_takeBack 5 = .ok (.iconst 1, 1) := by decide +kernel
theorem dX1_takeBack_6 : decode cX1_takeBack 6 = .ok (.isub, 1) := by decide +kernel
theorem dX1_takeBack_7 : decode cX1_takeBack 7 = .ok (.invokevirtual 30, 3) := by decide +kernel
theorem dX1_takeBack_10 : decode cX1_takeBack 10 = .ok (.istore_n 2, 1) := by decide +kernel
theorem dX1_takeBack_11 : decode cX1_takeBack 11 = .ok (.aload_n 0, 1) := by decide +kernel
theorem dX1_takeBack_12 : decode cX1_takeBack 12 = .ok (.getfield 27, 3) := by decide +kernel
theorem dX1_takeBack_15 : decode cX1_takeBack 15 = .ok (.ifCond .eq 16, 3) := by decide +kernel
theorem dX1_takeBack_18 : decode cX1_takeBack 18 = .ok (.iload_n 2, 1) := by decide +kernel
theorem dX1_takeBack_19 : decode cX1_takeBack 19 = .ok (.ifCond .lt 12, 3) := by decide +kernel
theorem dX1_takeBack_22 : decode cX1_takeBack 22 = .ok (.iload_n 2, 1) := by decide +kernel
theorem dX1_takeBack_23 : decode cX1_takeBack 23 = .ok (.aload_n 0, 1) := by decide +kernel
theorem dX1_takeBack_24 : decode cX1_takeBack 24 = .ok (.getfield 11, 3) := by decide +kernel
theorem dX1_takeBack_27 : decode cX1_takeBack 27 = .ok (.arraylength, 1) := by decide +kernel
theorem dX1_takeBack_28 : decode cX1_takeBack 28 = .ok (.if_icmp .lt 6, 3) := by decide +kernel
theorem dX1_takeBack_31 : decode cX1_takeBack 31 = .ok (.bipush (-5), 2) := by decide +kernel
theorem dX1_takeBack_33 : decode cX1_takeBack 33 = .ok (.ireturn, 1) := by decide +kernel
theorem dX1_takeBack_34 : decode cX1_takeBack 34 = .ok (.aload_n 0, 1) := by decide +kernel
theorem dX1_takeBack_35 : decode cX1_takeBack 35 = .ok (.getfield 11, 3) := by decide +kernel
theorem dX1_takeBack_38 : decode cX1_takeBack 38 = .ok (.iload_n 2, 1) := by decide +kernel
theorem dX1_takeBack_39 : decode cX1_takeBack 39 = .ok (.aaload, 1) := by decide +kernel
theorem dX1_takeBack_40 : decode cX1_takeBack 40 = .ok (.astore_n 3, 1) := by decide +kernel
theorem dX1_takeBack_41 : decode cX1_takeBack 41 = .ok (.aload_n 3, 1) := by decide +kernel
theorem dX1_takeBack_42 : decode cX1_takeBack 42 = .ok (.ifnonnull 6, 3) := by decide +kernel
theorem dX1_takeBack_45 : decode cX1_takeBack 45 = .ok (.bipush (-5), 2) := by decide +kernel
theorem dX1_takeBack_47 : decode cX1_takeBack 47 = .ok (.ireturn, 1) := by decide +kernel
theorem dX1_takeBack_48 : decode cX1_takeBack 48 = .ok (.aload_n 1, 1) := by decide +kernel
theorem dX1_takeBack_49 : decode cX1_takeBack 49 = .ok (.aload_n 3, 1) := by decide +kernel
theorem dX1_takeBack_50 : decode cX1_takeBack 50 = .ok (.invokevirtual 35, 3) := by decide +kernel
theorem dX1_takeBack_53 : decode cX1_takeBack 53 = .ok (.aload_n 0, 1) := by decide +kernel
theorem dX1_takeBack_54 : decode cX1_takeBack 54 = .ok (.dup, 1) := by decide +kernel
theorem dX1_takeBack_55 : decode cX1_takeBack 55 = .ok (.getfield 27, 3) := by decide +kernel
theorem dX1_takeBack_58 : decode cX1_takeBack 58 = .ok (.iconst 1, 1) := by decide +kernel
theorem dX1_takeBack_59 : decode cX1_takeBack 59 = .ok (.isub, 1) := by decide +kernel
theorem dX1_takeBack_60 : decode cX1_takeBack 60 = .ok (.putfield 27, 3) := by decide +kernel
theorem dX1_takeBack_63 : decode cX1_takeBack 63 = .ok (.aload_n 0, 1) := by decide +kernel
theorem dX1_takeBack_64 : decode cX1_takeBack 64 = .ok (.getfield 27, 3) := by decide +kernel
theorem dX1_takeBack_67 : decode cX1_takeBack 67 = .ok (.ireturn, 1) := by decide +kernel
theorem dX2_init_0 : decode cX2_init 0 = .ok (.aload_n 0, 1) := by decide +kernel
theorem dX2_init_1 : decode cX2_init 1 = .ok (.invokespecial 3, 3) := by decide +kernel
theorem dX2_init_4 : decode cX2_init 4 = .ok (.aload_n 0, 1) := by decide +kernel
theorem dX2_init_5 : decode cX2_init 5 = .ok (.bipush 80, 2) := by decide +kernel
theorem dX2_init_7 : decode cX2_init 7 = .ok (.newarray .char, 2) := by decide +kernel
theorem dX2_init_9 : decode cX2_init 9 = .ok (.putfield 9, 3) := by decide +kernel
theorem dX2_init_12 : decode cX2_init 12 = .ok (.return_, 1) := by decide +kernel
theorem dX3_init_0 : decode cX3_init 0 = .ok (.aload_n 0, 1) := by decide +kernel
theorem dX3_init_1 : decode cX3_init 1 = .ok (.invokespecial 3, 3) := by decide +kernel
theorem dX3_init_4 : decode cX3_init 4 = .ok (.aload_n 0, 1) := by decide +kernel
theorem dX3_init_5 : decode cX3_init 5 = .ok (.getstatic 9, 3) := by decide +kernel
theorem dX3_init_8 : decode cX3_init 8 = .ok (.invokevirtual 13, 3) := by decide +kernel
theorem dX3_init_11 : decode cX3_init 11 = .ok (.checkcast 14, 3) := by decide +kernel
theorem dX3_init_14 : decode cX3_init 14 = .ok (.putfield 18, 3) := by decide +kernel
theorem dX3_init_17 : decode cX3_init 17 = .ok (.aload_n 0, 1) := by decide +kernel
theorem dX3_init_18 : decode cX3_init 18 = .ok (.new 23, 3) := by decide +kernel
theorem dX3_init_21 : decode cX3_init 21 = .ok (.dup, 1) := by decide +kernel
theorem dX3_init_22 : decode cX3_init 22 = .ok (.invokespecial 25, 3) := by decide +kernel
theorem dX3_init_25 : decode cX3_init 25 = .ok (.putfield 26, 3) := by decide +kernel
theorem dX3_init_28 : decode cX3_init 28 = .ok (.aload_n 0, 1) := by decide +kernel
theorem dX3_init_29 : decode cX3_init 29 = .ok (.sipush 2048, 3) := by decide +kernel
theorem dX3_init_32 : decode cX3_init 32 = .ok (.putfield 30, 3) := by decide +kernel
theorem dX3_init_35 : decode cX3_init 35 = .ok (.aload_n 0, 1) := by decide +kernel
theorem dX3_init_36 : decode cX3_init 36 = .ok (.sipush 2048, 3) := by decide +kernel
theorem dX3_init_39 : decode cX3_init 39 = .ok (.putfield 34, 3) := by decide +kernel
theorem dX3_init_42 : decode cX3_init 42 = .ok (.aload_n 0, 1) := by decide +kernel
theorem dX3_init_43 : decode cX3_init 43 = .ok (.aload_n 0, 1) := by decide +kernel
theorem dX3_init_44 : decode cX3_init 44 = .ok (.getfield 18, 3) := by decide +kernel
theorem dX3_init_47 : decode cX3_init 47 = .ok (.iconst 1, 1) := by decide +kernel
theorem dX3_init_48 : decode cX3_init 48 = .ok (.iaload, 1) := by decide +kernel
theorem dX3_init_49 : decode cX3_init 49 = .ok (.putfield 37, 3) := by decide +kernel
theorem dX3_init_52 : decode cX3_init 52 = .ok (.return_, 1) := by decide +kernel
theorem dX3_becomeLike_0 : decode cX3_becomeLike 0 = .ok (.aload_n 1, 1) := by decide +kernel
theorem dX3_becomeLike_1 : decode cX3_becomeLike 1 = .ok (.getfield 18, 3) := by decide +kernel
theorem dX3_becomeLike_4 : decode cX3_becomeLike 4 = .ok (.iconst 0, 1) := by decide +kernel
theorem dX3_becomeLike_5 : decode cX3_becomeLike 5 = .ok (.aload_n 0, 1) := by decide +kernel
theorem dX3_becomeLike_6 : decode cX3_becomeLike 6 = .ok (.getfield 18, 3) := by decide +kernel
theorem dX3_becomeLike_9 : decode cX3_becomeLike 9 = .ok (.iconst 0, 1) := by decide +kernel
theorem dX3_becomeLike_10 : decode cX3_becomeLike 10 = .ok (.bipush 7, 2) := by decide +kernel
theorem dX3_becomeLike_12 : decode cX3_becomeLike 12 = .ok (.invokestatic 40, 3) := by decide +kernel
theorem dX3_becomeLike_15 : decode cX3_becomeLike 15 = .ok (.aload_n 0, 1) := by decide +kernel
theorem dX3_becomeLike_16 : decode cX3_becomeLike 16 = .ok (.getfield 26, 3) := by decide +kernel
theorem dX3_becomeLike_19 : decode cX3_becomeLike 19 = .ok (.aload_n 1, 1) := by decide +kernel
theorem dX3_becomeLike_20 : decode cX3_becomeLike 20 = .ok (.getfield 26, 3) := by decide +kernel
theorem dX3_becomeLike_23 : decode cX3_becomeLike 23 = .ok (.invokevirtual 46, 3) := by decide +kernel
theorem dX3_becomeLike_26 : decode cX3_becomeLike 26 = .ok (.aload_n 0, 1) := by decide +kernel
theorem dX3_becomeLike_27 : decode cX3_becomeLike 27 = .ok (.aload_n 1, 1) := by decide +kernel
theorem dX3_becomeLike_28 : decode cX3_becomeLike 28 = .ok (.getfield 30, 3) := by decide +kernel
theorem dX3_becomeLike_31 : decode cX3_becomeLike 31 = .ok (.putfield 30, 3) := by decide +kernel
theorem dX3_becomeLike_34 : decode cX3_becomeLike 34 = .ok (.aload_n 0, 1) := by decide +kernel
theorem dX3_becomeLike_35 : decode cX3_becomeLike 35 = .ok (.aload_n 1, 1) := by decide +kernel
theorem dX3_becomeLike_36 : decode cX3_becomeLike 36 = .ok (.getfield 34, 3) := by decide +kernel
theorem dX3_becomeLike_39 : decode cX3_becomeLike 39 = .ok (.putfield 34, 3) := by decide +kernel
theorem dX3_becomeLike_42 : decode cX3_becomeLike 42 = .ok (.aload_n 0, 1) := by decide +kernel
theorem dX3_becomeLike_43 : decode cX3_becomeLike 43 = .ok (.aload_n 1, 1) := by decide +kernel
theorem dX3_becomeLike_44 : decode cX3_becomeLike 44 = .ok (.getfield 37, 3) := by decide +kernel
theorem dX3_becomeLike_47 : decode cX3_becomeLike 47 = .ok (.putfield 37, 3) := by decide +kernel
theorem dX3_becomeLike_50 : decode cX3_becomeLike 50 = .ok (.aload_n 0, 1) := by decide +kernel
theorem dX3_becomeLike_51 : decode cX3_becomeLike 51 = .ok (.aload_n 1, 1) := by decide +kernel
theorem dX3_becomeLike_52 : decode cX3_becomeLike 52 = .ok (.getfield 50, 3) := by decide +kernel
theorem dX3_becomeLike_55 : decode cX3_becomeLike 55 = .ok (.putfield 50, 3) := by decide +kernel
theorem dX3_becomeLike_58 : decode cX3_becomeLike 58 = .ok (.aload_n 0, 1) := by decide +kernel
theorem dX3_becomeLike_59 : decode cX3_becomeLike 59 = .ok (.aload_n 1, 1) := by decide +kernel
theorem dX3_becomeLike_60 : decode cX3_becomeLike 60 = .ok (.getfield 53, 3) := by decide +kernel
theorem dX3_becomeLike_63 : decode cX3_becomeLike 63 = .ok (.putfield 53, 3) := by decide +kernel
theorem dX3_becomeLike_66 : decode cX3_becomeLike 66 = .ok (.aload_n 0, 1) := by decide +kernel
theorem dX3_becomeLike_67 : decode cX3_becomeLike 67 = .ok (.aload_n 1, 1) := by decide +kernel
theorem dX3_becomeLike_68 : decode cX3_becomeLike 68 = .ok (.getfield 56, 3) := by decide +kernel
theorem dX3_becomeLike_71 : decode cX3_becomeLike 71 = .ok (.putfield 56, 3) := by decide +kernel
theorem dX3_becomeLike_74 : decode cX3_becomeLike 74 = .ok (.aload_n 0, 1) := by decide +kernel
theorem dX3_becomeLike_75 : decode cX3_becomeLike 75 = .ok (.aload_n 1, 1) := by decide +kernel
theorem dX3_becomeLike_76 : decode cX3_becomeLike 76 = .ok (.getfield 59, 3) := by decide +kernel
theorem dX3_becomeLike_79 : decode cX3_becomeLike 79 = .ok (.putfield 59, 3) := by decide +kernel
theorem dX3_becomeLike_82 : decode cX3_becomeLike 82 = .ok (.aload_n 0, 1) := by decide +kernel
theorem dX3_becomeLike_83 : decode cX3_becomeLike 83 = .ok (.aload_n 1, 1) := by decide +kernel
theorem dX3_becomeLike_84 : decode cX3_becomeLike 84 = .ok (.getfield 62, 3) := by decide +kernel
theorem dX3_becomeLike_87 : decode cX3_becomeLike 87 = .ok (.putfield 62, 3) := by decide +kernel
theorem dX3_becomeLike_90 : decode cX3_becomeLike 90 = .ok (.aload_n 0, 1) := by decide +kernel
theorem dX3_becomeLike_91 : decode cX3_becomeLike 91 = .ok (.aload_n 1, 1) := by decide +kernel
theorem dX3_becomeLike_92 : decode cX3_becomeLike 92 = .ok (.getfield 65, 3) := by decide +kernel
theorem dX3_becomeLike_95 : decode cX3_becomeLike 95 = .ok (.putfield 65, 3) := by decide +kernel
theorem dX3_becomeLike_98 : decode cX3_becomeLike 98 = .ok (.aload_n 0, 1) := by decide +kernel
theorem dX3_becomeLike_99 : decode cX3_becomeLike 99 = .ok (.aload_n 1, 1) := by decide +kernel
theorem dX3_becomeLike_100 : decode cX3_becomeLike 100 = .ok (.getfield 68, 3) := by decide +kernel
theorem dX3_becomeLike_103 : decode cX3_becomeLike 103 = .ok (.putfield 68, 3) := by decide +kernel
theorem dX3_becomeLike_106 : decode cX3_becomeLike 106 = .ok (.aload_n 0, 1) := by decide +kernel
theorem dX3_becomeLike_107 : decode cX3_becomeLike 107 = .ok (.aload_n 1, 1) := by decide +kernel
theorem dX3_becomeLike_108 : decode cX3_becomeLike 108 = .ok (.getfield 71, 3) := by decide +kernel
theorem dX3_becomeLike_111 : decode cX3_becomeLike 111 = .ok (.putfield 71, 3) := by decide +kernel
theorem dX3_becomeLike_114 : decode cX3_becomeLike 114 = .ok (.aload_n 0, 1) := by decide +kernel
theorem dX3_becomeLike_115 : decode cX3_becomeLike 115 = .ok (.aload_n 1, 1) := by decide +kernel
theorem dX3_becomeLike_116 : decode cX3_becomeLike 116 = .ok (.getfield 74, 3) := by decide +kernel
theorem dX3_becomeLike_119 : decode cX3_becomeLike 119 = .ok (.putfield 74, 3) := by decide +kernel
theorem dX3_becomeLike_122 : decode cX3_becomeLike 122 = .ok (.aload_n 0, 1) := by decide +kernel
theorem dX3_becomeLike_123 : decode cX3_becomeLike 123 = .ok (.aload_n 1, 1) := by decide +kernel
theorem dX3_becomeLike_124 : decode cX3_becomeLike 124 = .ok (.getfield 77, 3) := by decide +kernel
theorem dX3_becomeLike_127 : decode cX3_becomeLike 127 = .ok (.putfield 77, 3) := by decide +kernel
theorem dX3_becomeLike_130 : decode cX3_becomeLike 130 = .ok (.aload_n 0, 1) := by decide +kernel
theorem dX3_becomeLike_131 : decode cX3_becomeLike 131 = .ok (.aload_n 1, 1) := by decide +kernel
theorem dX3_becomeLike_132 : decode cX3_becomeLike 132 = .ok (.getfield 80, 3) := by decide +kernel
theorem dX3_becomeLike_135 : decode cX3_becomeLike 135 = .ok (.putfield 80, 3) := by decide +kernel
theorem dX3_becomeLike_138 : decode cX3_becomeLike 138 = .ok (.aload_n 0, 1) := by decide +kernel
theorem dX3_becomeLike_139 : decode cX3_becomeLike 139 = .ok (.aload_n 1, 1) := by decide +kernel
theorem dX3_becomeLike_140 : decode cX3_becomeLike 140 = .ok (.getfield 83, 3) := by decide +kernel
theorem dX3_becomeLike_143 : decode cX3_becomeLike 143 = .ok (.putfield 83, 3) := by decide +kernel
theorem dX3_becomeLike_146 : decode cX3_becomeLike 146 = .ok (.return_, 1) := by decide +kernel
theorem dX3_changeSetting_0 : decode cX3_changeSetting 0 = .ok (.iload_n 1, 1) := by decide +kernel
theorem dX3_changeSetting_1 : decode cX3_changeSetting 1 = .ok (.ifCond .lt 9, 3) := by decide +kernel
theorem dX3_changeSetting_4 : decode cX3_changeSetting 4 = .ok (.iload_n 1, 1) := by decide +kernel
theorem dX3_changeSetting_5 : decode cX3_changeSetting 5 = .ok (.bipush 7, 2) := by decide +kernel
theorem dX3_changeSetting_7 : decode cX3_changeSetting 7 = .ok (.if_icmp .lt 6, 3) := by decide +kernel
theorem dX3_changeSetting_10 : decode cX3_changeSetting 10 = .ok (.bipush (-2), 2) := by decide +kernel
theorem dX3_changeSetting_12 : decode cX3_changeSetting 12 = .ok (.ireturn, 1) := by decide +kernel
theorem dX3_changeSetting_13 : decode cX3_changeSetting 13 = .ok (.aload_n 0, 1) := by decide +kernel
theorem dX3_changeSetting_14 : decode cX3_changeSetting 14 = .ok (.getfield 18, 3) := by decide +kernel
theorem dX3_changeSetting_17 : decode cX3_changeSetting 17 = .ok (.iload_n 1, 1) := by decide +kernel
theorem dX3_changeSetting_18 : decode cX3_changeSetting 18 = .ok (.iaload, 1) := by decide +kernel
theorem dX3_changeSetting_19 : decode cX3_changeSetting 19 = .ok (.istore_n 3, 1) := by decide +kernel
theorem dX3_changeSetting_20 : decode cX3_changeSetting 20 = .ok (.aload_n 0, 1) := by decide +kernel
theorem dX3_changeSetting_21 : decode cX3_changeSetting 21 = .ok (.getfield 18, 3) := by decide +kernel
theorem dX3_changeSetting_24 : decode cX3_changeSetting 24 = .ok (.iload_n 1, 1) := by decide +kernel
theorem dX3_changeSetting_25 : decode cX3_changeSetting 25 = .ok (.iload_n 2, 1) := by decide +kernel
theorem dX3_changeSetting_26 : decode cX3_changeSetting 26 = .ok (.iastore, 1) := by decide +kernel
theorem dX3_changeSetting_27 : decode cX3_changeSetting 27 = .ok (.iload_n 1, 1) := by decide +kernel
theorem dX3_changeSetting_28 : decode cX3_changeSetting 28 = .ok (.iconst 1, 1) := by decide +kernel
theorem dX3_changeSetting_29 : decode cX3_changeSetting 29 = .ok (.if_icmp .eq 8, 3) := by decide +kernel
theorem dX3_changeSetting_32 : decode cX3_changeSetting 32 = .ok (.iload_n 1, 1) := by decide +kernel
theorem dX3_changeSetting_33 : decode cX3_changeSetting 33 = .ok (.iconst 2, 1) := by decide +kernel
theorem dX3_changeSetting_34 : decode cX3_changeSetting 34 = .ok (.if_icmp .ne 13, 3) := by decide +kernel
theorem dX3_changeSetting_37 : decode cX3_changeSetting 37 = .ok (.aload_n 0, 1) := by decide +kernel
theorem dX3_changeSetting_38 : decode cX3_changeSetting 38 = .ok (.aload_n 0, 1) := by decide +kernel
theorem dX3_changeSetting_39 : decode cX3_changeSetting 39 = .ok (.getfield 18, 3) := by decide +kernel
theorem dX3_changeSetting_42 : decode cX3_changeSetting 42 = .ok (.iconst 1, 1) := by decide +kernel
theorem dX3_changeSetting_43 : decode cX3_changeSetting 43 = .ok (.iaload, 1) := by decide +kernel
theorem dX3_changeSetting_44 : decode cX3_changeSetting 44 = .ok (.putfield 37, 3) := by decide +kernel
theorem dX3_changeSetting_47 : decode cX3_changeSetting 47 = .ok (.iload_n 3, 1) := by decide +kernel
theorem dX3_changeSetting_48 : decode cX3_changeSetting 48 = .ok (.ireturn, 1) := by decide +kernel
theorem dX3_toMiddle_0 : decode cX3_toMiddle 0 = .ok (.aload_n 0, 1) := by decide +kernel
theorem dX3_toMiddle_1 : decode cX3_toMiddle 1 = .ok (.getfield 30, 3) := by decide +kernel
theorem dX3_toMiddle_4 : decode cX3_toMiddle 4 = .ok (.sipush 2048, 3) := by decide +kernel
theorem dX3_toMiddle_7 : decode cX3_toMiddle 7 = .ok (.isub, 1) := by decide +kernel
theorem dX3_toMiddle_8 : decode cX3_toMiddle 8 = .ok (.invokestatic 86, 3) := by decide +kernel
theorem dX3_toMiddle_11 : decode cX3_toMiddle 11 = .ok (.aload_n 0, 1) := by decide +kernel
theorem dX3_toMiddle_12 : decode cX3_toMiddle 12 = .ok (.getfield 34, 3) := by decide +kernel
theorem dX3_toMiddle_15 : decode cX3_toMiddle 15 = .ok (.sipush 2048, 3) := by decide +kernel
theorem dX3_toMiddle_18 : decode cX3_toMiddle 18 = .ok (.isub, 1) := by decide +kernel
theorem dX3_toMiddle_19 : decode cX3_toMiddle 19 = .ok (.invokestatic 86, 3) := by decide +kernel
theorem dX3_toMiddle_22 : decode cX3_toMiddle 22 = .ok (.iadd, 1) := by decide +kernel
theorem dX3_toMiddle_23 : decode cX3_toMiddle 23 = .ok (.istore_n 1, 1) := by decide +kernel
theorem dX3_toMiddle_24 : decode cX3_toMiddle 24 = .ok (.aload_n 0, 1) := by decide +kernel
theorem dX3_toMiddle_25 : decode cX3_toMiddle 25 = .ok (.sipush 2048, 3) := by decide +kernel
theorem dX3_toMiddle_28 : decode cX3_toMiddle 28 = .ok (.putfield 30, 3) := by decide +kernel
theorem dX3_toMiddle_31 : decode cX3_toMiddle 31 = .ok (.aload_n 0, 1) := by decide +kernel
theorem dX3_toMiddle_32 : decode cX3_toMiddle 32 = .ok (.sipush 2048, 3) := by decide +kernel
theorem dX3_toMiddle_35 : decode cX3_toMiddle 35 = .ok (.putfield 34, 3) := by decide +kernel
theorem dX3_toMiddle_38 : decode cX3_toMiddle 38 = .ok (.aload_n 0, 1) := by decide +kernel
theorem dX3_toMiddle_39 : decode cX3_toMiddle 39 = .ok (.aload_n 0, 1) := by decide +kernel
theorem dX3_toMiddle_40 : decode cX3_toMiddle 40 = .ok (.getfield 18, 3) := by decide +kernel
theorem dX3_toMiddle_43 : decode cX3_toMiddle 43 = .ok (.iconst 1, 1) := by decide +kernel
theorem dX3_toMiddle_44 : decode cX3_toMiddle 44 = .ok (.iaload, 1) := by decide +kernel
theorem dX3_toMiddle_45 : decode cX3_toMiddle 45 = .ok (.putfield 37, 3) := by decide +kernel
theorem dX3_toMiddle_48 : decode cX3_toMiddle 48 = .ok (.aload_n 0, 1) := by decide +kernel
theorem dX3_toMiddle_49 : decode cX3_toMiddle 49 = .ok (.iconst 0, 1) := by decide +kernel
theorem dX3_toMiddle_50 : decode cX3_toMiddle 50 = .ok (.putfield 62, 3) := by decide +kernel
theorem dX3_toMiddle_53 : decode cX3_toMiddle 53 = .ok (.iload_n 1, 1) := by decide +kernel
theorem dX3_toMiddle_54 : decode cX3_toMiddle 54 = .ok (.ireturn, 1) := by decide +kernel
theorem dX3_refusalOfPress_0 : decode cX3_refusalOfPress 0 = .ok (.iload_n 1, 1) := by decide +kernel
theorem dX3_refusalOfPress_1 : decode cX3_refusalOfPress 1 = .ok (.invokestatic 92, 3) := by decide +kernel
theorem dX3_refusalOfPress_4 : decode cX3_refusalOfPress 4 = .ok (.ifCond .ne 5, 3) := by decide +kernel
theorem dX3_refusalOfPress_7 : decode cX3_refusalOfPress 7 = .ok (.iconst (-1), 1) := by decide +kernel
theorem dX3_refusalOfPress_8 : decode cX3_refusalOfPress 8 = .ok (.ireturn, 1) := by decide +kernel
theorem dX3_refusalOfPress_9 : decode cX3_refusalOfPress 9 = .ok (.aload_n 0, 1) := by decide +kernel
theorem dX3_refusalOfPress_10 : decode cX3_refusalOfPress 10 = .ok (.iload_n 1, 1) := by decide +kernel
theorem dX3_refusalOfPress_11 : decode cX3_refusalOfPress 11 = .ok (.invokevirtual 96, 3) := by decide +kernel
theorem dX3_refusalOfPress_14 : decode cX3_refusalOfPress 14 = .ok (.ifCond .eq 8, 3) := by decide +kernel
theorem dX3_refusalOfPress_17 : decode cX3_refusalOfPress 17 = .ok (.bipush (-5), 2) := by decide +kernel
theorem dX3_refusalOfPress_19 : decode cX3_refusalOfPress 19 = .ok (.goto 4, 3) := by decide +kernel
theorem dX3_refusalOfPress_22 : decode cX3_refusalOfPress 22 = .ok (.iconst 0, 1) := by decide +kernel
theorem dX3_refusalOfPress_23 : decode cX3_refusalOfPress 23 = .ok (.ireturn, 1) := by decide +kernel
theorem dX3_refusalOfLetUp_0 : decode cX3_refusalOfLetUp 0 = .ok (.iload_n 1, 1) := by decide +kernel
theorem dX3_refusalOfLetUp_1 : decode cX3_refusalOfLetUp 1 = .ok (.invokestatic 92, 3) := by decide +kernel
theorem dX3_refusalOfLetUp_4 : decode cX3_refusalOfLetUp 4 = .ok (.ifCond .ne 5, 3) := by decide +kernel
theorem dX3_refusalOfLetUp_7 : decode cX3_refusalOfLetUp 7 = .ok (.iconst (-1), 1) := by decide +kernel
theorem dX3_refusalOfLetUp_8 : decode cX3_refusalOfLetUp 8 = .ok (.ireturn, 1) := by decide +kernel
theorem dX3_refusalOfLetUp_9 : decode cX3_refusalOfLetUp 9 = .ok (.aload_n 0, 1) := by decide +kernel
theorem dX3_refusalOfLetUp_10 : decode cX3_refusalOfLetUp 10 = .ok (.iload_n 1, 1) := by decide +kernel
theorem dX3_refusalOfLetUp_11 : decode cX3_refusalOfLetUp 11 = .ok (.invokevirtual 96, 3) := by decide +kernel
theorem dX3_refusalOfLetUp_14 : decode cX3_refusalOfLetUp 14 = .ok (.ifCond .eq 7, 3) := by decide +kernel
theorem dX3_refusalOfLetUp_17 : decode cX3_refusalOfLetUp 17 = .ok (.iconst 0, 1) := by decide +kernel
theorem dX3_refusalOfLetUp_18 : decode cX3_refusalOfLetUp 18 = .ok (.goto 5, 3) := by decide +kernel
theorem dX3_refusalOfLetUp_21 : decode cX3_refusalOfLetUp 21 = .ok (.bipush (-5), 2) := by decide +kernel
theorem dX3_refusalOfLetUp_23 : decode cX3_refusalOfLetUp 23 = .ok (.ireturn, 1) := by decide +kernel
theorem dX3_isButton_0 : decode cX3_isButton 0 = .ok (.iload_n 0, 1) := by decide +kernel
theorem dX3_isButton_1 : decode cX3_isButton 1 = .ok (.ifCond .lt 13, 3) := by decide +kernel
theorem dX3_isButton_4 : decode cX3_isButton 4 = .ok (.iload_n 0, 1) := by decide +kernel
theorem dX3_isButton_5 : decode cX3_isButton 5 = .ok (.bipush 8, 2) := by decide +kernel
theorem dX3_isButton_7 : decode cX3_isButton 7 = .ok (.if_icmp .ge 7, 3) := by decide +kernel
theorem dX3_isButton_10 : decode cX3_isButton 10 = .ok (.iconst 1, 1) := by decide +kernel
theorem dX3_isButton_11 : decode cX3_isButton 11 = .ok (.goto 4, 3) := by decide +kernel
theorem dX3_isButton_14 : decode cX3_isButton 14 = .ok (.iconst 0, 1) := by decide +kernel
theorem dX3_isButton_15 : decode cX3_isButton 15 = .ok (.ireturn, 1) := by decide +kernel
theorem dX3_isDown_0 : decode cX3_isDown 0 = .ok (.aload_n 0, 1) := by decide +kernel
theorem dX3_isDown_1 : decode cX3_isDown 1 = .ok (.getfield 77, 3) := by decide +kernel
theorem dX3_isDown_4 : decode cX3_isDown 4 = .ok (.iload_n 1, 1) := by decide +kernel
theorem dX3_isDown_5 : decode cX3_isDown 5 = .ok (.ishr, 1) := by decide +kernel
theorem dX3_isDown_6 : decode cX3_isDown 6 = .ok (.iconst 1, 1) := by decide +kernel
theorem dX3_isDown_7 : decode cX3_isDown 7 = .ok (.iand, 1) := by decide +kernel
theorem dX3_isDown_8 : decode cX3_isDown 8 = .ok (.iconst 1, 1) := by decide +kernel
theorem dX3_isDown_9 : decode cX3_isDown 9 = .ok (.if_icmp .ne 7, 3) := by decide +kernel
theorem dX3_isDown_12 : decode cX3_isDown 12 = .ok (.iconst 1, 1) := by decide +kernel
theorem dX3_isDown_13 : decode cX3_isDown 13 = .ok (.goto 4, 3) := by decide +kernel
theorem dX3_isDown_16 : decode cX3_isDown 16 = .ok (.iconst 0, 1) := by decide +kernel
theorem dX3_isDown_17 : decode cX3_isDown 17 = .ok (.ireturn, 1) := by decide +kernel
theorem dX3_pushDown_0 : decode cX3_pushDown 0 = .ok (.aload_n 0, 1) := by decide +kernel
theorem dX3_pushDown_1 : decode cX3_pushDown 1 = .ok (.dup, 1) := by decide +kernel
theorem dX3_pushDown_2 : decode cX3_pushDown 2 = .ok (.getfield 77, 3) := by decide +kernel
theorem dX3_pushDown_5 : decode cX3_pushDown 5 = .ok (.iconst 1, 1) := by decide +kernel
theorem dX3_pushDown_6 : decode cX3_pushDown 6 = .ok (.iload_n 1, 1) := by decide +kernel
theorem dX3_pushDown_7 : decode cX3_pushDown 7 = .ok (.ishl, 1) := by decide +kernel
theorem dX3_pushDown_8 : decode cX3_pushDown 8 = .ok (.ior, 1) := by decide +kernel
theorem dX3_pushDown_9 : decode cX3_pushDown 9 = .ok (.putfield 77, 3) := by decide +kernel
theorem dX3_pushDown_12 : decode cX3_pushDown 12 = .ok (.aload_n 0, 1) := by decide +kernel
theorem dX3_pushDown_13 : decode cX3_pushDown 13 = .ok (.aload_n 0, 1) := by decide +kernel
theorem dX3_pushDown_14 : decode cX3_pushDown 14 = .ok (.getfield 18, 3) := by decide +kernel
theorem dX3_pushDown_17 : decode cX3_pushDown 17 = .ok (.bipush 6, 2) := by decide +kernel
theorem dX3_pushDown_19 : decode cX3_pushDown 19 = .ok (.iaload, 1) := by decide +kernel
theorem dX3_pushDown_20 : decode cX3_pushDown 20 = .ok (.putfield 65, 3) := by decide +kernel
theorem dX3_pushDown_23 : decode cX3_pushDown 23 = .ok (.aload_n 0, 1) := by decide +kernel
theorem dX3_pushDown_24 : decode cX3_pushDown 24 = .ok (.getfield 77, 3) := by decide +kernel
theorem dX3_pushDown_27 : decode cX3_pushDown 27 = .ok (.ireturn, 1) := by decide +kernel
theorem dX3_release_0 : decode cX3_release 0 = .ok (.aload_n 0, 1) := by decide +kernel
theorem dX3_release_1 : decode cX3_release 1 = .ok (.dup, 1) := by decide +kernel
theorem dX3_release_2 : decode cX3_release 2 = .ok (.getfield 77, 3) := by decide +kernel
theorem dX3_release_5 : decode cX3_release 5 = .ok (.iconst 1, 1) := by decide +kernel
theorem dX3_release_6 : decode cX3_release 6 = .ok (.iload_n 1, 1) := by decide +kernel
theorem dX3_release_7 : decode cX3_release 7 = .ok (.ishl, 1) := by decide +kernel
theorem dX3_release_8 : decode cX3_release 8 = .ok (.iconst (-1), 1) := by decide +kernel
theorem dX3_release_9 : decode cX3_release 9 = .ok (.ixor, 1) := by decide +kernel
theorem dX3_release_10 : decode cX3_release 10 = .ok (.iand, 1) := by decide +kernel
theorem dX3_release_11 : decode cX3_release 11 = .ok (.putfield 77, 3) := by decide +kernel
theorem dX3_release_14 : decode cX3_release 14 = .ok (.aload_n 0, 1) := by decide +kernel
theorem dX3_release_15 : decode cX3_release 15 = .ok (.getfield 77, 3) := by decide +kernel
theorem dX3_release_18 : decode cX3_release 18 = .ok (.ireturn, 1) := by decide +kernel
theorem dX3_refusalOfSamples_0 : decode cX3_refusalOfSamples 0 = .ok (.iload_n 1, 1) := by decide +kernel
theorem dX3_refusalOfSamples_1 : decode cX3_refusalOfSamples 1 = .ok (.iload_n 2, 1) := by decide +kernel
theorem dX3_refusalOfSamples_2 : decode cX3_refusalOfSamples 2 = .ok (.invokestatic 99, 3) := by decide +kernel
theorem dX3_refusalOfSamples_5 : decode cX3_refusalOfSamples 5 = .ok (.ifCond .ne 6, 3) := by decide +kernel
theorem dX3_refusalOfSamples_8 : decode cX3_refusalOfSamples 8 = .ok (.bipush (-2), 2) := by decide +kernel
theorem dX3_refusalOfSamples_10 : decode cX3_refusalOfSamples 10 = .ok (.ireturn, 1) := by decide +kernel
theorem dX3_refusalOfSamples_11 : decode cX3_refusalOfSamples 11 = .ok (.aload_n 0, 1) := by decide +kernel
theorem dX3_refusalOfSamples_12 : decode cX3_refusalOfSamples 12 = .ok (.getfield 68, 3) := by decide +kernel
theorem dX3_refusalOfSamples_15 : decode cX3_refusalOfSamples 15 = .ok (.iload_n 3, 1) := by decide +kernel
theorem dX3_refusalOfSamples_16 : decode cX3_refusalOfSamples 16 = .ok (.iadd, 1) := by decide +kernel
theorem dX3_refusalOfSamples_17 : decode cX3_refusalOfSamples 17 = .ok (.sipush 9999, 3) := by decide +kernel
theorem dX3_refusalOfSamples_20 : decode cX3_refusalOfSamples 20 = .ok (.if_icmp .le 8, 3) := by decide +kernel
theorem dX3_refusalOfSamples_23 : decode cX3_refusalOfSamples 23 = .ok (.bipush (-5), 2) := by decide +kernel
theorem dX3_refusalOfSamples_25 : decode cX3_refusalOfSamples 25 = .ok (.goto 4, 3) := by decide +kernel
theorem dX3_refusalOfSamples_28 : decode cX3_refusalOfSamples 28 = .ok (.iconst 0, 1) := by decide +kernel
theorem dX3_refusalOfSamples_29 : decode cX3_refusalOfSamples 29 = .ok (.ireturn, 1) := by decide +kernel
theorem dX3_restPlaceX_0 : decode cX3_restPlaceX 0 = .ok (.aload_n 0, 1) := by decide +kernel
theorem dX3_restPlaceX_1 : decode cX3_restPlaceX 1 = .ok (.getfield 30, 3) := by decide +kernel
theorem dX3_restPlaceX_4 : decode cX3_restPlaceX 4 = .ok (.bipush 16, 2) := by decide +kernel
theorem dX3_restPlaceX_6 : decode cX3_restPlaceX 6 = .ok (.idiv, 1) := by decide +kernel
theorem dX3_restPlaceX_7 : decode cX3_restPlaceX 7 = .ok (.ireturn, 1) := by decide +kernel
theorem dX3_restPlaceY_0 : decode cX3_restPlaceY 0 = .ok (.aload_n 0, 1) := by decide +kernel
theorem dX3_restPlaceY_1 : decode cX3_restPlaceY 1 = .ok (.getfield 34, 3) := by decide +kernel
theorem dX3_restPlaceY_4 : decode cX3_restPlaceY 4 = .ok (.bipush 16, 2) := by decide +kernel
theorem dX3_restPlaceY_6 : decode cX3_restPlaceY 6 = .ok (.idiv, 1) := by decide +kernel
theorem dX3_restPlaceY_7 : decode cX3_restPlaceY 7 = .ok (.ireturn, 1) := by decide +kernel
theorem dX3_isOffByNothing_0 : decode cX3_isOffByNothing 0 = .ok (.iload_n 1, 1) := by decide +kernel
theorem dX3_isOffByNothing_1 : decode cX3_isOffByNothing 1 = .ok (.aload_n 0, 1) := by decide +kernel
theorem dX3_isOffByNothing_2 : decode cX3_isOffByNothing 2 = .ok (.invokevirtual 103, 3) := by decide +kernel
theorem dX3_isOffByNothing_5 : decode cX3_isOffByNothing 5 = .ok (.if_icmp .ne 15, 3) := by decide +kernel
theorem dX3_isOffByNothing_8 : decode cX3_isOffByNothing 8 = .ok (.iload_n 2, 1) := by decide +kernel
theorem dX3_isOffByNothing_9 : decode cX3_isOffByNothing 9 = .ok (.aload_n 0, 1) := by decide +kernel
theorem dX3_isOffByNothing_10 : decode cX3_isOffByNothing 10 = .ok (.invokevirtual 107, 3) := by decide +kernel
theorem dX3_isOffByNothing_13 : decode cX3_isOffByNothing 13 = .ok (.if_icmp .ne 7, 3) := by decide +kernel
theorem dX3_isOffByNothing_16 : decode cX3_isOffByNothing 16 = .ok (.iconst 1, 1) := by decide +kernel
theorem dX3_isOffByNothing_17 : decode cX3_isOffByNothing 17 = .ok (.goto 4, 3) := by decide +kernel
theorem dX3_isOffByNothing_20 : decode cX3_isOffByNothing 20 = .ok (.iconst 0, 1) := by decide +kernel
theorem dX3_isOffByNothing_21 : decode cX3_isOffByNothing 21 = .ok (.ireturn, 1) := by decide +kernel
theorem dX3_farthestOff_0 : decode cX3_farthestOff 0 = .ok (.iload_n 1, 1) := by decide +kernel
theorem dX3_farthestOff_1 : decode cX3_farthestOff 1 = .ok (.aload_n 0, 1) := by decide +kernel
theorem dX3_farthestOff_2 : decode cX3_farthestOff 2 = .ok (.invokevirtual 103, 3) := by decide +kernel
theorem dX3_farthestOff_5 : decode cX3_farthestOff 5 = .ok (.isub, 1) := by decide +kernel
theorem dX3_farthestOff_6 : decode cX3_farthestOff 6 = .ok (.invokestatic 86, 3) := by decide +kernel
theorem dX3_farthestOff_9 : decode cX3_farthestOff 9 = .ok (.iload_n 2, 1) := by decide +kernel
theorem dX3_farthestOff_10 : decode cX3_farthestOff 10 = .ok (.aload_n 0, 1) := by decide +kernel
theorem dX3_farthestOff_11 : decode cX3_farthestOff 11 = .ok (.invokevirtual 107, 3) := by decide +kernel
theorem dX3_farthestOff_14 : decode cX3_farthestOff 14 = .ok (.isub, 1) := by decide +kernel
theorem dX3_farthestOff_15 : decode cX3_farthestOff 15 = .ok (.invokestatic 86, 3) := by decide +kernel
theorem dX3_farthestOff_18 : decode cX3_farthestOff 18 = .ok (.invokestatic 110, 3) := by decide +kernel
theorem dX3_farthestOff_21 : decode cX3_farthestOff 21 = .ok (.ireturn, 1) := by decide +kernel
theorem dX3_stillWith_0 : decode cX3_stillWith 0 = .ok (.aload_n 0, 1) := by decide +kernel
theorem dX3_stillWith_1 : decode cX3_stillWith 1 = .ok (.getfield 68, 3) := by decide +kernel
theorem dX3_stillWith_4 : decode cX3_stillWith 4 = .ok (.ifCond .le 33, 3) := by decide +kernel
theorem dX3_stillWith_7 : decode cX3_stillWith 7 = .ok (.iload_n 1, 1) := by decide +kernel
theorem dX3_stillWith_8 : decode cX3_stillWith 8 = .ok (.aload_n 0, 1) := by decide +kernel
theorem dX3_stillWith_9 : decode cX3_stillWith 9 = .ok (.getfield 56, 3) := by decide +kernel
theorem dX3_stillWith_12 : decode cX3_stillWith 12 = .ok (.isub, 1) := by decide +kernel
theorem dX3_stillWith_13 : decode cX3_stillWith 13 = .ok (.invokestatic 86, 3) := by decide +kernel
theorem dX3_stillWith_16 : decode cX3_stillWith 16 = .ok (.iconst 1, 1) := by decide +kernel
theorem dX3_stillWith_17 : decode cX3_stillWith 17 = .ok (.if_icmp .gt 20, 3) := by decide +kernel
theorem dX3_stillWith_20 : decode cX3_stillWith 20 = .ok (.iload_n 2, 1) := by decide +kernel
theorem dX3_stillWith_21 : decode cX3_stillWith 21 = .ok (.aload_n 0, 1) := by decide +kernel
theorem dX3_stillWith_22 : decode cX3_stillWith 22 = .ok (.getfield 59, 3) := by decide +kernel
theorem dX3_stillWith_25 : decode cX3_stillWith 25 = .ok (.isub, 1) := by decide +kernel
theorem dX3_stillWith_26 : decode cX3_stillWith 26 = .ok (.invokestatic 86, 3) := by decide +kernel
theorem dX3_stillWith_29 : decode cX3_stillWith 29 = .ok (.iconst 1, 1) := by decide +kernel
theorem dX3_stillWith_30 : decode cX3_stillWith 30 = .ok (.if_icmp .gt 7, 3) := by decide +kernel
theorem dX3_stillWith_33 : decode cX3_stillWith 33 = .ok (.iconst 1, 1) := by decide +kernel
theorem dX3_stillWith_34 : decode cX3_stillWith 34 = .ok (.goto 4, 3) := by decide +kernel
theorem dX3_stillWith_37 : decode cX3_stillWith 37 = .ok (.iconst 0, 1) := by decide +kernel
theorem dX3_stillWith_38 : decode cX3_stillWith 38 = .ok (.istore_n 3, 1) := by decide +kernel
theorem dX3_stillWith_39 : decode cX3_stillWith 39 = .ok (.iload_n 3, 1) := by decide +kernel
theorem dX3_stillWith_40 : decode cX3_stillWith 40 = .ok (.ifCond .eq 12, 3) := by decide +kernel
theorem dX3_stillWith_43 : decode cX3_stillWith 43 = .ok (.aload_n 0, 1) := by decide +kernel
theorem dX3_stillWith_44 : decode cX3_stillWith 44 = .ok (.getfield 62, 3) := by decide +kernel
theorem dX3_stillWith_47 : decode cX3_stillWith 47 = .ok (.iconst 1, 1) := by decide +kernel
theorem dX3_stillWith_48 : decode cX3_stillWith 48 = .ok (.iadd, 1) := by decide +kernel
theorem dX3_stillWith_49 : decode cX3_stillWith 49 = .ok (.goto 4, 3) := by decide +kernel
theorem dX3_stillWith_52 : decode cX3_stillWith 52 = .ok (.iconst 0, 1) := by decide +kernel
theorem dX3_stillWith_53 : decode cX3_stillWith 53 = .ok (.ireturn, 1) := by decide +kernel
theorem dX3_wouldDrift_0 : decode cX3_wouldDrift 0 = .ok (.aload_n 0, 1) := by decide +kernel
theorem dX3_wouldDrift_1 : decode cX3_wouldDrift 1 = .ok (.iload_n 1, 1) := by decide +kernel
theorem dX3_wouldDrift_2 : decode cX3_wouldDrift 2 = .ok (.iload_n 2, 1) := by decide +kernel
theorem dX3_wouldDrift_3 : decode cX3_wouldDrift 3 = .ok (.invokevirtual 114, 3) := by decide +kernel
theorem dX3_wouldDrift_6 : decode cX3_wouldDrift 6 = .ok (.istore_n 3, 1) := by decide +kernel
theorem dX3_wouldDrift_7 : decode cX3_wouldDrift 7 = .ok (.aload_n 0, 1) := by decide +kernel
theorem dX3_wouldDrift_8 : decode cX3_wouldDrift 8 = .ok (.getfield 65, 3) := by decide +kernel
theorem dX3_wouldDrift_11 : decode cX3_wouldDrift 11 = .ok (.ifCond .ne 41, 3) := by decide +kernel
theorem dX3_wouldDrift_14 : decode cX3_wouldDrift 14 = .ok (.iload_n 3, 1) := by decide +kernel
theorem dX3_wouldDrift_15 : decode cX3_wouldDrift 15 = .ok (.aload_n 0, 1) := by decide +kernel
theorem dX3_wouldDrift_16 : decode cX3_wouldDrift 16 = .ok (.getfield 37, 3) := by decide +kernel
theorem dX3_wouldDrift_19 : decode cX3_wouldDrift 19 = .ok (.if_icmp .le 33, 3) := by decide +kernel
theorem dX3_wouldDrift_22 : decode cX3_wouldDrift 22 = .ok (.iload_n 3, 1) := by decide +kernel
theorem dX3_wouldDrift_23 : decode cX3_wouldDrift 23 = .ok (.aload_n 0, 1) := by decide +kernel
theorem dX3_wouldDrift_24 : decode cX3_wouldDrift 24 = .ok (.getfield 37, 3) := by decide +kernel
theorem dX3_wouldDrift_27 : decode cX3_wouldDrift 27 = .ok (.bipush 8, 2) := by decide +kernel
theorem dX3_wouldDrift_29 : decode cX3_wouldDrift 29 = .ok (.iadd, 1) := by decide +kernel
theorem dX3_wouldDrift_30 : decode cX3_wouldDrift 30 = .ok (.if_icmp .gt 22, 3) := by decide +kernel
theorem dX3_wouldDrift_33 : decode cX3_wouldDrift 33 = .ok (.aload_n 0, 1) := by decide +kernel
theorem dX3_wouldDrift_34 : decode cX3_wouldDrift 34 = .ok (.iload_n 1, 1) := by decide +kernel
theorem dX3_wouldDrift_35 : decode cX3_wouldDrift 35 = .ok (.iload_n 2, 1) := by decide +kernel
theorem dX3_wouldDrift_36 : decode cX3_wouldDrift 36 = .ok (.invokevirtual 117, 3) := by decide +kernel
theorem dX3_wouldDrift_39 : decode cX3_wouldDrift 39 = .ok (.aload_n 0, 1) := by decide +kernel
theorem dX3_wouldDrift_40 : decode cX3_wouldDrift 40 = .ok (.getfield 18, 3) := by decide +kernel
theorem dX3_wouldDrift_43 : decode cX3_wouldDrift 43 = .ok (.iconst 5, 1) := by decide +kernel
theorem dX3_wouldDrift_44 : decode cX3_wouldDrift 44 = .ok (.iaload, 1) := by decide +kernel
theorem dX3_wouldDrift_45 : decode cX3_wouldDrift 45 = .ok (.if_icmp .lt 7, 3) := by decide +kernel
theorem dX3_wouldDrift_48 : decode cX3_wouldDrift 48 = .ok (.iconst 1, 1) := by decide +kernel
theorem dX3_wouldDrift_49 : decode cX3_wouldDrift 49 = .ok (.goto 4, 3) := by decide +kernel
theorem dX3_wouldDrift_52 : decode cX3_wouldDrift 52 = .ok (.iconst 0, 1) := by decide +kernel
theorem dX3_wouldDrift_53 : decode cX3_wouldDrift 53 = .ok (.ireturn, 1) := by decide +kernel
theorem dX3_tellingAt_0 : decode cX3_tellingAt 0 = .ok (.aload_n 0, 1) := by decide +kernel
theorem dX3_tellingAt_1 : decode cX3_tellingAt 1 = .ok (.iload_n 1, 1) := by decide +kernel
theorem dX3_tellingAt_2 : decode cX3_tellingAt 2 = .ok (.iload_n 2, 1) := by decide +kernel
theorem dX3_tellingAt_3 : decode cX3_tellingAt 3 = .ok (.invokevirtual 114, 3) := by decide +kernel
theorem dX3_tellingAt_6 : decode cX3_tellingAt 6 = .ok (.aload_n 0, 1) := by decide +kernel
theorem dX3_tellingAt_7 : decode cX3_tellingAt 7 = .ok (.getfield 37, 3) := by decide +kernel
theorem dX3_tellingAt_10 : decode cX3_tellingAt 10 = .ok (.if_icmp .le 12, 3) := by decide +kernel
theorem dX3_tellingAt_13 : decode cX3_tellingAt 13 = .ok (.aload_n 0, 1) := by decide +kernel
theorem dX3_tellingAt_14 : decode cX3_tellingAt 14 = .ok (.iload_n 1, 1) := by decide +kernel
theorem dX3_tellingAt_15 : decode cX3_tellingAt 15 = .ok (.iload_n 2, 1) := by decide +kernel
theorem dX3_tellingAt_16 : decode cX3_tellingAt 16 = .ok (.invokevirtual 120, 3) := by decide +kernel
theorem dX3_tellingAt_19 : decode cX3_tellingAt 19 = .ok (.ifCond .eq 9, 3) := by decide +kernel
theorem dX3_tellingAt_22 : decode cX3_tellingAt 22 = .ok (.iconst 0, 1) := by decide +kernel
theorem dX3_tellingAt_23 : decode cX3_tellingAt 23 = .ok (.iconst 0, 1) := by decide +kernel
theorem dX3_tellingAt_24 : decode cX3_tellingAt 24 = .ok (.invokestatic 123, 3) := by decide +kernel
theorem dX3_tellingAt_27 : decode cX3_tellingAt 27 = .ok (.ireturn, 1) := by decide +kernel
theorem dX3_tellingAt_28 : decode cX3_tellingAt 28 = .ok (.aload_n 0, 1) := by decide +kernel
theorem dX3_tellingAt_29 : decode cX3_tellingAt 29 = .ok (.iload_n 1, 1) := by decide +kernel
theorem dX3_tellingAt_30 : decode cX3_tellingAt 30 = .ok (.aload_n 0, 1) := by decide +kernel
theorem dX3_tellingAt_31 : decode cX3_tellingAt 31 = .ok (.invokevirtual 103, 3) := by decide +kernel
theorem dX3_tellingAt_34 : decode cX3_tellingAt 34 = .ok (.isub, 1) := by decide +kernel
theorem dX3_tellingAt_35 : decode cX3_tellingAt 35 = .ok (.invokevirtual 126, 3) := by decide +kernel
theorem dX3_tellingAt_38 : decode cX3_tellingAt 38 = .ok (.istore_n 3, 1) := by decide +kernel
theorem dX3_tellingAt_39 : decode cX3_tellingAt 39 = .ok (.aload_n 0, 1) := by decide +kernel
theorem dX3_tellingAt_40 : decode cX3_tellingAt 40 = .ok (.iload_n 2, 1) := by decide +kernel
theorem dX3_tellingAt_41 : decode cX3_tellingAt 41 = .ok (.aload_n 0, 1) := by decide +kernel
theorem dX3_tellingAt_42 : decode cX3_tellingAt 42 = .ok (.invokevirtual 107, 3) := by decide +kernel
theorem dX3_tellingAt_45 : decode cX3_tellingAt 45 = .ok (.isub, 1) := by decide +kernel
theorem dX3_tellingAt_46 : decode cX3_tellingAt 46 = .ok (.invokevirtual 126, 3) := by decide +kernel
theorem dX3_tellingAt_49 : decode cX3_tellingAt 49 = .ok (.istore 4, 2) := by decide +kernel
theorem dX3_tellingAt_51 : decode cX3_tellingAt 51 = .ok (.iload_n 3, 1) := by decide +kernel
theorem dX3_tellingAt_52 : decode cX3_tellingAt 52 = .ok (.invokestatic 86, 3) := by decide +kernel
theorem dX3_tellingAt_55 : decode cX3_tellingAt 55 = .ok (.iload 4, 2) := by decide +kernel
theorem dX3_tellingAt_57 : decode cX3_tellingAt 57 = .ok (.invokestatic 86, 3) := by decide +kernel
theorem dX3_tellingAt_60 : decode cX3_tellingAt 60 = .ok (.iadd, 1) := by decide +kernel
theorem dX3_tellingAt_61 : decode cX3_tellingAt 61 = .ok (.istore 5, 2) := by decide +kernel
theorem dX3_tellingAt_63 : decode cX3_tellingAt 63 = .ok (.aload_n 0, 1) := by decide +kernel
theorem dX3_tellingAt_64 : decode cX3_tellingAt 64 = .ok (.getfield 18, 3) := by decide +kernel
theorem dX3_tellingAt_67 : decode cX3_tellingAt 67 = .ok (.iconst 4, 1) := by decide +kernel
theorem dX3_tellingAt_68 : decode cX3_tellingAt 68 = .ok (.iaload, 1) := by decide +kernel
theorem dX3_tellingAt_69 : decode cX3_tellingAt 69 = .ok (.istore 6, 2) := by decide +kernel
theorem dX3_tellingAt_71 : decode cX3_tellingAt 71 = .ok (.iload 5, 2) := by decide +kernel
theorem dX3_tellingAt_73 : decode cX3_tellingAt 73 = .ok (.iload 6, 2) := by decide +kernel
theorem dX3_tellingAt_75 : decode cX3_tellingAt 75 = .ok (.if_icmp .le 26, 3) := by decide +kernel
theorem dX3_tellingAt_78 : decode cX3_tellingAt 78 = .ok (.iload_n 3, 1) := by decide +kernel
theorem dX3_tellingAt_79 : decode cX3_tellingAt 79 = .ok (.iload 6, 2) := by decide +kernel
theorem dX3_tellingAt_81 : decode cX3_tellingAt 81 = .ok (.imul, 1) := by decide +kernel
theorem dX3_tellingAt_82 : decode cX3_tellingAt 82 = .ok (.iload 5, 2) := by decide +kernel
theorem dX3_tellingAt_84 : decode cX3_tellingAt 84 = .ok (.invokestatic 129, 3) := by decide +kernel
theorem dX3_tellingAt_87 : decode cX3_tellingAt 87 = .ok (.iload 4, 2) := by decide +kernel
theorem dX3_tellingAt_89 : decode cX3_tellingAt 89 = .ok (.iload 6, 2) := by decide +kernel
theorem dX3_tellingAt_91 : decode cX3_tellingAt 91 = .ok (.imul, 1) := by decide +kernel
theorem dX3_tellingAt_92 : decode cX3_tellingAt 92 = .ok (.iload 5, 2) := by decide +kernel
theorem dX3_tellingAt_94 : decode cX3_tellingAt 94 = .ok (.invokestatic 129, 3) := by decide +kernel
theorem dX3_tellingAt_97 : decode cX3_tellingAt 97 = .ok (.invokestatic 123, 3) := by decide +kernel
theorem dX3_tellingAt_100 : decode cX3_tellingAt 100 = .ok (.ireturn, 1) := by decide +kernel
theorem dX3_tellingAt_101 : decode cX3_tellingAt 101 = .ok (.iload_n 3, 1) := by decide +kernel
theorem dX3_tellingAt_102 : decode cX3_tellingAt 102 = .ok (.iload 4, 2) := by decide +kernel
theorem dX3_tellingAt_104 : decode cX3_tellingAt 104 = .ok (.invokestatic 123, 3) := by decide +kernel
theorem dX3_tellingAt_107 : decode cX3_tellingAt 107 = .ok (.ireturn, 1) := by decide +kernel
theorem dX3_leanOf_0 : decode cX3_leanOf 0 = .ok (.iload_n 1, 1) := by decide +kernel
theorem dX3_leanOf_1 : decode cX3_leanOf 1 = .ok (.invokestatic 86, 3) := by decide +kernel
theorem dX3_leanOf_4 : decode cX3_leanOf 4 = .ok (.aload_n 0, 1) := by decide +kernel
theorem dX3_leanOf_5 : decode cX3_leanOf 5 = .ok (.getfield 37, 3) := by decide +kernel
theorem dX3_leanOf_8 : decode cX3_leanOf 8 = .ok (.isub, 1) := by decide +kernel
theorem dX3_leanOf_9 : decode cX3_leanOf 9 = .ok (.istore_n 2, 1) := by decide +kernel
theorem dX3_leanOf_10 : decode cX3_leanOf 10 = .ok (.iload_n 2, 1) := by decide +kernel
theorem dX3_leanOf_11 : decode cX3_leanOf 11 = .ok (.ifCond .gt 5, 3) := by decide +kernel
theorem dX3_leanOf_14 : decode cX3_leanOf 14 = .ok (.iconst 0, 1) := by decide +kernel
theorem dX3_leanOf_15 : decode cX3_leanOf 15 = .ok (.ireturn, 1) := by decide +kernel
theorem dX3_leanOf_16 : decode cX3_leanOf 16 = .ok (.bipush 100, 2) := by decide +kernel
theorem dX3_leanOf_18 : decode cX3_leanOf 18 = .ok (.iload_n 2, 1) := by decide +kernel
theorem dX3_leanOf_19 : decode cX3_leanOf 19 = .ok (.bipush 100, 2) := by decide +kernel
theorem dX3_leanOf_21 : decode cX3_leanOf 21 = .ok (.imul, 1) := by decide +kernel
theorem dX3_leanOf_22 : decode cX3_leanOf 22 = .ok (.aload_n 0, 1) := by decide +kernel
theorem dX3_leanOf_23 : decode cX3_leanOf 23 = .ok (.getfield 18, 3) := by decide +kernel
theorem dX3_leanOf_26 : decode cX3_leanOf 26 = .ok (.iconst 3, 1) := by decide +kernel
theorem dX3_leanOf_27 : decode cX3_leanOf 27 = .ok (.iaload, 1) := by decide +kernel
theorem dX3_leanOf_28 : decode cX3_leanOf 28 = .ok (.aload_n 0, 1) := by decide +kernel
theorem dX3_leanOf_29 : decode cX3_leanOf 29 = .ok (.getfield 37, 3) := by decide +kernel
theorem dX3_leanOf_32 : decode cX3_leanOf 32 = .ok (.isub, 1) := by decide +kernel
theorem dX3_leanOf_33 : decode cX3_leanOf 33 = .ok (.invokestatic 129, 3) := by decide +kernel
theorem dX3_leanOf_36 : decode cX3_leanOf 36 = .ok (.invokestatic 132, 3) := by decide +kernel
theorem dX3_leanOf_39 : decode cX3_leanOf 39 = .ok (.istore_n 3, 1) := by decide +kernel
theorem dX3_leanOf_40 : decode cX3_leanOf 40 = .ok (.iload_n 1, 1) := by decide +kernel
theorem dX3_leanOf_41 : decode cX3_leanOf 41 = .ok (.ifCond .ge 8, 3) := by decide +kernel
theorem dX3_leanOf_44 : decode cX3_leanOf 44 = .ok (.iload_n 3, 1) := by decide +kernel
theorem dX3_leanOf_45 : decode cX3_leanOf 45 = .ok (.ineg, 1) := by decide +kernel
theorem dX3_leanOf_46 : decode cX3_leanOf 46 = .ok (.goto 4, 3) := by decide +kernel
theorem dX3_leanOf_49 : decode cX3_leanOf 49 = .ok (.iload_n 3, 1) := by decide +kernel
theorem dX3_leanOf_50 : decode cX3_leanOf 50 = .ok (.ireturn, 1) := by decide +kernel
theorem dX3_telling_0 : decode cX3_telling 0 = .ok (.aload_n 0, 1) := by decide +kernel
theorem dX3_telling_1 : decode cX3_telling 1 = .ok (.getfield 50, 3) := by decide +kernel
theorem dX3_telling_4 : decode cX3_telling 4 = .ok (.aload_n 0, 1) := by decide +kernel
theorem dX3_telling_5 : decode cX3_telling 5 = .ok (.getfield 53, 3) := by decide +kernel
theorem dX3_telling_8 : decode cX3_telling 8 = .ok (.invokestatic 123, 3) := by decide +kernel
theorem dX3_telling_11 : decode cX3_telling 11 = .ok (.ireturn, 1) := by decide +kernel
theorem dX3_tellsSomething_0 : decode cX3_tellsSomething 0 = .ok (.aload_n 0, 1) := by decide +kernel
theorem dX3_tellsSomething_1 : decode cX3_tellsSomething 1 = .ok (.getfield 50, 3) := by decide +kernel
theorem dX3_tellsSomething_4 : decode cX3_tellsSomething 4 = .ok (.ifCond .ne 10, 3) := by decide +kernel
theorem dX3_tellsSomething_7 : decode cX3_tellsSomething 7 = .ok (.aload_n 0, 1) := by decide +kernel
theorem dX3_tellsSomething_8 : decode cX3_tellsSomething 8 = .ok (.getfield 53, 3) := by decide +kernel
theorem dX3_tellsSomething_11 : decode cX3_tellsSomething 11 = .ok (.ifCond .eq 7, 3) := by decide +kernel
theorem dX3_tellsSomething_14 : decode cX3_tellsSomething 14 = .ok (.iconst 1, 1) := by decide +kernel
theorem dX3_tellsSomething_15 : decode cX3_tellsSomething 15 = .ok (.goto 4, 3) := by decide +kernel
theorem dX3_tellsSomething_18 : decode cX3_tellsSomething 18 = .ok (.iconst 0, 1) := by decide +kernel
theorem dX3_tellsSomething_19 : decode cX3_tellsSomething 19 = .ok (.ireturn, 1) := by decide +kernel
theorem dX3_take_0 : decode cX3_take 0 = .ok (.aload_n 0, 1) := by decide +kernel
theorem dX3_take_1 : decode cX3_take 1 = .ok (.iload_n 1, 1) := by decide +kernel
theorem dX3_take_2 : decode cX3_take 2 = .ok (.iload_n 2, 1) := by decide +kernel
theorem dX3_take_3 : decode cX3_take 3 = .ok (.invokevirtual 135, 3) := by decide +kernel
theorem dX3_take_6 : decode cX3_take 6 = .ok (.istore_n 3, 1) := by decide +kernel
theorem dX3_take_7 : decode cX3_take 7 = .ok (.aload_n 0, 1) := by decide +kernel
theorem dX3_take_8 : decode cX3_take 8 = .ok (.iload_n 1, 1) := by decide +kernel
theorem dX3_take_9 : decode cX3_take 9 = .ok (.iload_n 2, 1) := by decide +kernel
theorem dX3_take_10 : decode cX3_take 10 = .ok (.invokevirtual 114, 3) := by decide +kernel
theorem dX3_take_13 : decode cX3_take 13 = .ok (.aload_n 0, 1) := by decide +kernel
theorem dX3_take_14 : decode cX3_take 14 = .ok (.getfield 37, 3) := by decide +kernel
theorem dX3_take_17 : decode cX3_take 17 = .ok (.if_icmp .gt 7, 3) := by decide +kernel
theorem dX3_take_20 : decode cX3_take 20 = .ok (.iconst 1, 1) := by decide +kernel
theorem dX3_take_21 : decode cX3_take 21 = .ok (.goto 4, 3) := by decide +kernel
theorem dX3_take_24 : decode cX3_take 24 = .ok (.iconst 0, 1) := by decide +kernel
theorem dX3_take_25 : decode cX3_take 25 = .ok (.istore 4, 2) := by decide +kernel
theorem dX3_take_27 : decode cX3_take 27 = .ok (.aload_n 0, 1) := by decide +kernel
theorem dX3_take_28 : decode cX3_take 28 = .ok (.iload_n 1, 1) := by decide +kernel
theorem dX3_take_29 : decode cX3_take 29 = .ok (.iload_n 2, 1) := by decide +kernel
theorem dX3_take_30 : decode cX3_take 30 = .ok (.invokevirtual 120, 3) := by decide +kernel
theorem dX3_take_33 : decode cX3_take 33 = .ok (.istore 5, 2) := by decide +kernel
theorem dX3_take_35 : decode cX3_take 35 = .ok (.aload_n 0, 1) := by decide +kernel
theorem dX3_take_36 : decode cX3_take 36 = .ok (.aload_n 0, 1) := by decide +kernel
theorem dX3_take_37 : decode cX3_take 37 = .ok (.iload_n 1, 1) := by decide +kernel
theorem dX3_take_38 : decode cX3_take 38 = .ok (.iload_n 2, 1) := by decide +kernel
theorem dX3_take_39 : decode cX3_take 39 = .ok (.invokevirtual 117, 3) := by decide +kernel
theorem dX3_take_42 : decode cX3_take 42 = .ok (.putfield 62, 3) := by decide +kernel
theorem dX3_take_45 : decode cX3_take 45 = .ok (.aload_n 0, 1) := by decide +kernel
theorem dX3_take_46 : decode cX3_take 46 = .ok (.iload_n 1, 1) := by decide +kernel
theorem dX3_take_47 : decode cX3_take 47 = .ok (.putfield 56, 3) := by decide +kernel
theorem dX3_take_50 : decode cX3_take 50 = .ok (.aload_n 0, 1) := by decide +kernel
theorem dX3_take_51 : decode cX3_take 51 = .ok (.iload_n 2, 1) := by decide +kernel
theorem dX3_take_52 : decode cX3_take 52 = .ok (.putfield 59, 3) := by decide +kernel
theorem dX3_take_55 : decode cX3_take 55 = .ok (.iload 4, 2) := by decide +kernel
theorem dX3_take_57 : decode cX3_take 57 = .ok (.ifCond .eq 12, 3) := by decide +kernel
theorem dX3_take_60 : decode cX3_take 60 = .ok (.aload_n 0, 1) := by decide +kernel
theorem dX3_take_61 : decode cX3_take 61 = .ok (.iload_n 1, 1) := by decide +kernel
theorem dX3_take_62 : decode cX3_take 62 = .ok (.iload_n 2, 1) := by decide +kernel
theorem dX3_take_63 : decode cX3_take 63 = .ok (.invokevirtual 138, 3) := by decide +kernel
theorem dX3_take_66 : decode cX3_take 66 = .ok (.goto 14, 3) := by decide +kernel
theorem dX3_take_69 : decode cX3_take 69 = .ok (.iload 5, 2) := by decide +kernel
theorem dX3_take_71 : decode cX3_take 71 = .ok (.ifCond .eq 9, 3) := by decide +kernel
theorem dX3_take_74 : decode cX3_take 74 = .ok (.aload_n 0, 1) := by decide +kernel
theorem dX3_take_75 : decode cX3_take 75 = .ok (.iload_n 1, 1) := by decide +kernel
theorem dX3_take_76 : decode cX3_take 76 = .ok (.iload_n 2, 1) := by decide +kernel
theorem dX3_take_77 : decode cX3_take 77 = .ok (.invokevirtual 142, 3) := by decide +kernel
theorem dX3_take_80 : decode cX3_take 80 = .ok (.aload_n 0, 1) := by decide +kernel
theorem dX3_take_81 : decode cX3_take 81 = .ok (.iload_n 3, 1) := by decide +kernel
theorem dX3_take_82 : decode cX3_take 82 = .ok (.invokevirtual 145, 3) := by decide +kernel
theorem dX3_take_85 : decode cX3_take 85 = .ok (.aload_n 0, 1) := by decide +kernel
theorem dX3_take_86 : decode cX3_take 86 = .ok (.getfield 65, 3) := by decide +kernel
theorem dX3_take_89 : decode cX3_take 89 = .ok (.ifCond .le 13, 3) := by decide +kernel
theorem dX3_take_92 : decode cX3_take 92 = .ok (.aload_n 0, 1) := by decide +kernel
theorem dX3_take_93 : decode cX3_take 93 = .ok (.dup, 1) := by decide +kernel
theorem dX3_take_94 : decode cX3_take 94 = .ok (.getfield 65, 3) := by decide +kernel
theorem dX3_take_97 : decode cX3_take 97 = .ok (.iconst 1, 1) := by decide +kernel
theorem dX3_take_98 : decode cX3_take 98 = .ok (.isub, 1) := by decide +kernel
theorem dX3_take_99 : decode cX3_take 99 = .ok (.putfield 65, 3) := by decide +kernel
theorem dX3_take_102 : decode cX3_take 102 = .ok (.aload_n 0, 1) := by decide +kernel
theorem dX3_take_103 : decode cX3_take 103 = .ok (.dup, 1) := by decide +kernel
theorem dX3_take_104 : decode cX3_take 104 = .ok (.getfield 68, 3) := by decide +kernel
theorem dX3_take_107 : decode cX3_take 107 = .ok (.iconst 1, 1) := by decide +kernel
theorem dX3_take_108 : decode cX3_take 108 = .ok (.iadd, 1) := by decide +kernel
theorem dX3_take_109 : decode cX3_take 109 = .ok (.putfield 68, 3) := by decide +kernel
theorem dX3_take_112 : decode cX3_take 112 = .ok (.return_, 1) := by decide +kernel
theorem dX3_tell_0 : decode cX3_tell 0 = .ok (.aload_n 0, 1) := by decide +kernel
theorem dX3_tell_1 : decode cX3_tell 1 = .ok (.iload_n 1, 1) := by decide +kernel
theorem dX3_tell_2 : decode cX3_tell 2 = .ok (.sipush 1000, 3) := by decide +kernel
theorem dX3_tell_5 : decode cX3_tell 5 = .ok (.idiv, 1) := by decide +kernel
theorem dX3_tell_6 : decode cX3_tell 6 = .ok (.bipush 100, 2) := by decide +kernel
theorem dX3_tell_8 : decode cX3_tell 8 = .ok (.isub, 1) := by decide +kernel
theorem dX3_tell_9 : decode cX3_tell 9 = .ok (.putfield 50, 3) := by decide +kernel
theorem dX3_tell_12 : decode cX3_tell 12 = .ok (.aload_n 0, 1) := by decide +kernel
theorem dX3_tell_13 : decode cX3_tell 13 = .ok (.iload_n 1, 1) := by decide +kernel
theorem dX3_tell_14 : decode cX3_tell 14 = .ok (.sipush 1000, 3) := by decide +kernel
theorem dX3_tell_17 : decode cX3_tell 17 = .ok (.irem, 1) := by decide +kernel
theorem dX3_tell_18 : decode cX3_tell 18 = .ok (.bipush 100, 2) := by decide +kernel
theorem dX3_tell_20 : decode cX3_tell 20 = .ok (.isub, 1) := by decide +kernel
theorem dX3_tell_21 : decode cX3_tell 21 = .ok (.putfield 53, 3) := by decide +kernel
theorem dX3_tell_24 : decode cX3_tell 24 = .ok (.aload_n 0, 1) := by decide +kernel
theorem dX3_tell_25 : decode cX3_tell 25 = .ok (.invokevirtual 149, 3) := by decide +kernel
theorem dX3_tell_28 : decode cX3_tell 28 = .ok (.ifCond .eq 13, 3) := by decide +kernel
theorem dX3_tell_31 : decode cX3_tell 31 = .ok (.aload_n 0, 1) := by decide +kernel
theorem dX3_tell_32 : decode cX3_tell 32 = .ok (.dup, 1) := by decide +kernel
theorem dX3_tell_33 : decode cX3_tell 33 = .ok (.getfield 80, 3) := by decide +kernel
theorem dX3_tell_36 : decode cX3_tell 36 = .ok (.iconst 1, 1) := by decide +kernel
theorem dX3_tell_37 : decode cX3_tell 37 = .ok (.iadd, 1) := by decide +kernel
theorem dX3_tell_38 : decode cX3_tell 38 = .ok (.putfield 80, 3) := by decide +kernel
theorem dX3_tell_41 : decode cX3_tell 41 = .ok (.aload_n 0, 1) := by decide +kernel
theorem dX3_tell_42 : decode cX3_tell 42 = .ok (.getfield 26, 3) := by decide +kernel
theorem dX3_tell_45 : decode cX3_tell 45 = .ok (.aload_n 0, 1) := by decide +kernel
theorem dX3_tell_46 : decode cX3_tell 46 = .ok (.getfield 50, 3) := by decide +kernel
theorem dX3_tell_49 : decode cX3_tell 49 = .ok (.iconst 0, 1) := by decide +kernel
theorem dX3_tell_50 : decode cX3_tell 50 = .ok (.invokestatic 153, 3) := by decide +kernel
theorem dX3_tell_53 : decode cX3_tell 53 = .ok (.aload_n 0, 1) := by decide +kernel
theorem dX3_tell_54 : decode cX3_tell 54 = .ok (.getfield 53, 3) := by decide +kernel
theorem dX3_tell_57 : decode cX3_tell 57 = .ok (.iconst 0, 1) := by decide +kernel
theorem dX3_tell_58 : decode cX3_tell 58 = .ok (.invokestatic 153, 3) := by decide +kernel
theorem dX3_tell_61 : decode cX3_tell 61 = .ok (.invokevirtual 158, 3) := by decide +kernel
theorem dX3_tell_64 : decode cX3_tell 64 = .ok (.return_, 1) := by decide +kernel
theorem dX3_comeToRest_0 : decode cX3_comeToRest 0 = .ok (.aload_n 0, 1) := by decide +kernel
theorem dX3_comeToRest_1 : decode cX3_comeToRest 1 = .ok (.invokevirtual 149, 3) := by decide +kernel
theorem dX3_comeToRest_4 : decode cX3_comeToRest 4 = .ok (.ifCond .eq 13, 3) := by decide +kernel
theorem dX3_comeToRest_7 : decode cX3_comeToRest 7 = .ok (.aload_n 0, 1) := by decide +kernel
theorem dX3_comeToRest_8 : decode cX3_comeToRest 8 = .ok (.dup, 1) := by decide +kernel
theorem dX3_comeToRest_9 : decode cX3_comeToRest 9 = .ok (.getfield 71, 3) := by decide +kernel
theorem dX3_comeToRest_12 : decode cX3_comeToRest 12 = .ok (.iconst 1, 1) := by decide +kernel
theorem dX3_comeToRest_13 : decode cX3_comeToRest 13 = .ok (.iadd, 1) := by decide +kernel
theorem dX3_comeToRest_14 : decode cX3_comeToRest 14 = .ok (.putfield 71, 3) := by decide +kernel
theorem dX3_comeToRest_17 : decode cX3_comeToRest 17 = .ok (.aload_n 0, 1) := by decide +kernel
theorem dX3_comeToRest_18 : decode cX3_comeToRest 18 = .ok (.getfield 65, 3) := by decide +kernel
theorem dX3_comeToRest_21 : decode cX3_comeToRest 21 = .ok (.ifCond .le 14, 3) := by decide +kernel
theorem dX3_comeToRest_24 : decode cX3_comeToRest 24 = .ok (.aload_n 0, 1) := by decide +kernel
theorem dX3_comeToRest_25 : decode cX3_comeToRest 25 = .ok (.dup, 1) := by decide +kernel
theorem dX3_comeToRest_26 : decode cX3_comeToRest 26 = .ok (.getfield 83, 3) := by decide +kernel
theorem dX3_comeToRest_29 : decode cX3_comeToRest 29 = .ok (.iconst 1, 1) := by decide +kernel
theorem dX3_comeToRest_30 : decode cX3_comeToRest 30 = .ok (.iadd, 1) := by decide +kernel
theorem dX3_comeToRest_31 : decode cX3_comeToRest 31 = .ok (.putfield 83, 3) := by decide +kernel
theorem dX3_comeToRest_34 : decode cX3_comeToRest 34 = .ok (.return_, 1) := by decide +kernel
theorem dX3_comeToRest_35 : decode cX3_comeToRest 35 = .ok (.aload_n 0, 1) := by decide +kernel
theorem dX3_comeToRest_36 : decode cX3_comeToRest 36 = .ok (.aload_n 0, 1) := by decide +kernel
theorem dX3_comeToRest_37 : decode cX3_comeToRest 37 = .ok (.iload_n 1, 1) := by decide +kernel
theorem dX3_comeToRest_38 : decode cX3_comeToRest 38 = .ok (.iload_n 2, 1) := by decide +kernel
theorem dX3_comeToRest_39 : decode cX3_comeToRest 39 = .ok (.invokevirtual 114, 3) := by decide +kernel
theorem dX3_comeToRest_42 : decode cX3_comeToRest 42 = .ok (.invokevirtual 161, 3) := by decide +kernel
theorem dX3_comeToRest_45 : decode cX3_comeToRest 45 = .ok (.aload_n 0, 1) := by decide +kernel
theorem dX3_comeToRest_46 : decode cX3_comeToRest 46 = .ok (.dup, 1) := by decide +kernel
theorem dX3_comeToRest_47 : decode cX3_comeToRest 47 = .ok (.getfield 30, 3) := by decide +kernel
theorem dX3_comeToRest_50 : decode cX3_comeToRest 50 = .ok (.bipush 16, 2) := by decide +kernel
theorem dX3_comeToRest_52 : decode cX3_comeToRest 52 = .ok (.iload_n 1, 1) := by decide +kernel
theorem dX3_comeToRest_53 : decode cX3_comeToRest 53 = .ok (.imul, 1) := by decide +kernel
theorem dX3_comeToRest_54 : decode cX3_comeToRest 54 = .ok (.aload_n 0, 1) := by decide +kernel
theorem dX3_comeToRest_55 : decode cX3_comeToRest 55 = .ok (.getfield 30, 3) := by decide +kernel
theorem dX3_comeToRest_58 : decode cX3_comeToRest 58 = .ok (.isub, 1) := by decide +kernel
theorem dX3_comeToRest_59 : decode cX3_comeToRest 59 = .ok (.aload_n 0, 1) := by decide +kernel
theorem dX3_comeToRest_60 : decode cX3_comeToRest 60 = .ok (.getfield 18, 3) := by decide +kernel
theorem dX3_comeToRest_63 : decode cX3_comeToRest 63 = .ok (.iconst 0, 1) := by decide +kernel
theorem dX3_comeToRest_64 : decode cX3_comeToRest 64 = .ok (.iaload, 1) := by decide +kernel
theorem dX3_comeToRest_65 : decode cX3_comeToRest 65 = .ok (.invokestatic 129, 3) := by decide +kernel
theorem dX3_comeToRest_68 : decode cX3_comeToRest 68 = .ok (.iadd, 1) := by decide +kernel
theorem dX3_comeToRest_69 : decode cX3_comeToRest 69 = .ok (.putfield 30, 3) := by decide +kernel
theorem dX3_comeToRest_72 : decode cX3_comeToRest 72 = .ok (.aload_n 0, 1) := by decide +kernel
theorem dX3_comeToRest_73 : decode cX3_comeToRest 73 = .ok (.dup, 1) := by decide +kernel
theorem dX3_comeToRest_74 : decode cX3_comeToRest 74 = .ok (.getfield 34, 3) := by decide +kernel
theorem dX3_comeToRest_77 : decode cX3_comeToRest 77 = .ok (.bipush 16, 2) := by decide +kernel
theorem dX3_comeToRest_79 : decode cX3_comeToRest 79 = .ok (.iload_n 2, 1) := by decide +kernel
theorem dX3_comeToRest_80 : decode cX3_comeToRest 80 = .ok (.imul, 1) := by decide +kernel
theorem dX3_comeToRest_81 : decode cX3_comeToRest 81 = .ok (.aload_n 0, 1) := by decide +kernel
theorem dX3_comeToRest_82 : decode cX3_comeToRest 82 = .ok (.getfield 34, 3) := by decide +kernel
theorem dX3_comeToRest_85 : decode cX3_comeToRest 85 = .ok (.isub, 1) := by decide +kernel
theorem dX3_comeToRest_86 : decode cX3_comeToRest 86 = .ok (.aload_n 0, 1) := by decide +kernel
theorem dX3_comeToRest_87 : decode cX3_comeToRest 87 = .ok (.getfield 18, 3) := by decide +kernel
theorem dX3_comeToRest_90 : decode cX3_comeToRest 90 = .ok (.iconst 0, 1) := by decide +kernel
theorem dX3_comeToRest_91 : decode cX3_comeToRest 91 = .ok (.iaload, 1) := by decide +kernel
theorem dX3_comeToRest_92 : decode cX3_comeToRest 92 = .ok (.invokestatic 129, 3) := by decide +kernel
theorem dX3_comeToRest_95 : decode cX3_comeToRest 95 = .ok (.iadd, 1) := by decide +kernel
theorem dX3_comeToRest_96 : decode cX3_comeToRest 96 = .ok (.putfield 34, 3) := by decide +kernel
theorem dX3_comeToRest_99 : decode cX3_comeToRest 99 = .ok (.return_, 1) := by decide +kernel
theorem dX3_fitZone_0 : decode cX3_fitZone 0 = .ok (.iconst 2, 1) := by decide +kernel
theorem dX3_fitZone_1 : decode cX3_fitZone 1 = .ok (.iload_n 1, 1) := by decide +kernel
theorem dX3_fitZone_2 : decode cX3_fitZone 2 = .ok (.imul, 1) := by decide +kernel
theorem dX3_fitZone_3 : decode cX3_fitZone 3 = .ok (.aload_n 0, 1) := by decide +kernel
theorem dX3_fitZone_4 : decode cX3_fitZone 4 = .ok (.getfield 37, 3) := by decide +kernel
theorem dX3_fitZone_7 : decode cX3_fitZone 7 = .ok (.if_icmp .le 32, 3) := by decide +kernel
theorem dX3_fitZone_10 : decode cX3_fitZone 10 = .ok (.aload_n 0, 1) := by decide +kernel
theorem dX3_fitZone_11 : decode cX3_fitZone 11 = .ok (.aload_n 0, 1) := by decide +kernel
theorem dX3_fitZone_12 : decode cX3_fitZone 12 = .ok (.getfield 37, 3) := by decide +kernel
theorem dX3_fitZone_15 : decode cX3_fitZone 15 = .ok (.iconst 1, 1) := by decide +kernel
theorem dX3_fitZone_16 : decode cX3_fitZone 16 = .ok (.iadd, 1) := by decide +kernel
theorem dX3_fitZone_17 : decode cX3_fitZone 17 = .ok (.aload_n 0, 1) := by decide +kernel
theorem dX3_fitZone_18 : decode cX3_fitZone 18 = .ok (.getfield 18, 3) := by decide +kernel
theorem dX3_fitZone_21 : decode cX3_fitZone 21 = .ok (.iconst 1, 1) := by decide +kernel
theorem dX3_fitZone_22 : decode cX3_fitZone 22 = .ok (.iaload, 1) := by decide +kernel
theorem dX3_fitZone_23 : decode cX3_fitZone 23 = .ok (.aload_n 0, 1) := by decide +kernel
theorem dX3_fitZone_24 : decode cX3_fitZone 24 = .ok (.getfield 18, 3) := by decide +kernel
theorem dX3_fitZone_27 : decode cX3_fitZone 27 = .ok (.iconst 2, 1) := by decide +kernel
theorem dX3_fitZone_28 : decode cX3_fitZone 28 = .ok (.iaload, 1) := by decide +kernel
theorem dX3_fitZone_29 : decode cX3_fitZone 29 = .ok (.iadd, 1) := by decide +kernel
theorem dX3_fitZone_30 : decode cX3_fitZone 30 = .ok (.invokestatic 132, 3) := by decide +kernel
theorem dX3_fitZone_33 : decode cX3_fitZone 33 = .ok (.putfield 37, 3) := by decide +kernel
theorem dX3_fitZone_36 : decode cX3_fitZone 36 = .ok (.goto 32, 3) := by decide +kernel
theorem dX3_fitZone_39 : decode cX3_fitZone 39 = .ok (.iconst 4, 1) := by decide +kernel
theorem dX3_fitZone_40 : decode cX3_fitZone 40 = .ok (.iload_n 1, 1) := by decide +kernel
theorem dX3_fitZone_41 : decode cX3_fitZone 41 = .ok (.imul, 1) := by decide +kernel
theorem dX3_fitZone_42 : decode cX3_fitZone 42 = .ok (.aload_n 0, 1) := by decide +kernel
theorem dX3_fitZone_43 : decode cX3_fitZone 43 = .ok (.getfield 37, 3) := by decide +kernel
theorem dX3_fitZone_46 : decode cX3_fitZone 46 = .ok (.if_icmp .gt 22, 3) := by decide +kernel
theorem dX3_fitZone_49 : decode cX3_fitZone 49 = .ok (.aload_n 0, 1) := by decide +kernel
theorem dX3_fitZone_50 : decode cX3_fitZone 50 = .ok (.aload_n 0, 1) := by decide +kernel
theorem dX3_fitZone_51 : decode cX3_fitZone 51 = .ok (.getfield 37, 3) := by decide +kernel
theorem dX3_fitZone_54 : decode cX3_fitZone 54 = .ok (.iconst 1, 1) := by decide +kernel
theorem dX3_fitZone_55 : decode cX3_fitZone 55 = .ok (.isub, 1) := by decide +kernel
theorem dX3_fitZone_56 : decode cX3_fitZone 56 = .ok (.aload_n 0, 1) := by decide +kernel
theorem dX3_fitZone_57 : decode cX3_fitZone 57 = .ok (.getfield 18, 3) := by decide +kernel
theorem dX3_fitZone_60 : decode cX3_fitZone 60 = .ok (.iconst 1, 1) := by decide +kernel
theorem dX3_fitZone_61 : decode cX3_fitZone 61 = .ok (.iaload, 1) := by decide +kernel
theorem dX3_fitZone_62 : decode cX3_fitZone 62 = .ok (.invokestatic 110, 3) := by decide +kernel
theorem dX3_fitZone_65 : decode cX3_fitZone 65 = .ok (.putfield 37, 3) := by decide +kernel
theorem dX3_fitZone_68 : decode cX3_fitZone 68 = .ok (.return_, 1) := by decide +kernel
theorem dX3_driftTo_0 : decode cX3_driftTo 0 = .ok (.aload_n 0, 1) := by decide +kernel
theorem dX3_driftTo_1 : decode cX3_driftTo 1 = .ok (.bipush 16, 2) := by decide +kernel
theorem dX3_driftTo_3 : decode cX3_driftTo 3 = .ok (.iload_n 1, 1) := by decide +kernel
theorem dX3_driftTo_4 : decode cX3_driftTo 4 = .ok (.imul, 1) := by decide +kernel
theorem dX3_driftTo_5 : decode cX3_driftTo 5 = .ok (.putfield 30, 3) := by decide +kernel
theorem dX3_driftTo_8 : decode cX3_driftTo 8 = .ok (.aload_n 0, 1) := by decide +kernel
theorem dX3_driftTo_9 : decode cX3_driftTo 9 = .ok (.bipush 16, 2) := by decide +kernel
theorem dX3_driftTo_11 : decode cX3_driftTo 11 = .ok (.iload_n 2, 1) := by decide +kernel
theorem dX3_driftTo_12 : decode cX3_driftTo 12 = .ok (.imul, 1) := by decide +kernel
theorem dX3_driftTo_13 : decode cX3_driftTo 13 = .ok (.putfield 34, 3) := by decide +kernel
theorem dX3_driftTo_16 : decode cX3_driftTo 16 = .ok (.aload_n 0, 1) := by decide +kernel
theorem dX3_driftTo_17 : decode cX3_driftTo 17 = .ok (.iconst 0, 1) := by decide +kernel
theorem dX3_driftTo_18 : decode cX3_driftTo 18 = .ok (.putfield 62, 3) := by decide +kernel
theorem dX3_driftTo_21 : decode cX3_driftTo 21 = .ok (.aload_n 0, 1) := by decide +kernel
theorem dX3_driftTo_22 : decode cX3_driftTo 22 = .ok (.dup, 1) := by decide +kernel
theorem dX3_driftTo_23 : decode cX3_driftTo 23 = .ok (.getfield 74, 3) := by decide +kernel
theorem dX3_driftTo_26 : decode cX3_driftTo 26 = .ok (.iconst 1, 1) := by decide +kernel
theorem dX3_driftTo_27 : decode cX3_driftTo 27 = .ok (.iadd, 1) := by decide +kernel
theorem dX3_driftTo_28 : decode cX3_driftTo 28 = .ok (.putfield 74, 3) := by decide +kernel
theorem dX3_driftTo_31 : decode cX3_driftTo 31 = .ok (.return_, 1) := by decide +kernel
theorem dX3_aboutX_0 : decode cX3_aboutX 0 = .ok (.aload_n 0, 1) := by decide +kernel
theorem dX3_aboutX_1 : decode cX3_aboutX 1 = .ok (.iload_n 1, 1) := by decide +kernel
theorem dX3_aboutX_2 : decode cX3_aboutX 2 = .ok (.aload_n 0, 1) := by decide +kernel
theorem dX3_aboutX_3 : decode cX3_aboutX 3 = .ok (.getfield 30, 3) := by decide +kernel
theorem dX3_aboutX_6 : decode cX3_aboutX 6 = .ok (.aload_n 0, 1) := by decide +kernel
theorem dX3_aboutX_7 : decode cX3_aboutX 7 = .ok (.getfield 50, 3) := by decide +kernel
theorem dX3_aboutX_10 : decode cX3_aboutX 10 = .ok (.aload_n 0, 1) := by decide +kernel
theorem dX3_aboutX_11 : decode cX3_aboutX 11 = .ok (.getfield 56, 3) := by decide +kernel
theorem dX3_aboutX_14 : decode cX3_aboutX 14 = .ok (.invokevirtual 164, 3) := by decide +kernel
theorem dX3_aboutX_17 : decode cX3_aboutX 17 = .ok (.ireturn, 1) := by decide +kernel
theorem dX3_aboutY_0 : decode cX3_aboutY 0 = .ok (.aload_n 0, 1) := by decide +kernel
theorem dX3_aboutY_1 : decode cX3_aboutY 1 = .ok (.iload_n 1, 1) := by decide +kernel
theorem dX3_aboutY_2 : decode cX3_aboutY 2 = .ok (.aload_n 0, 1) := by decide +kernel
theorem dX3_aboutY_3 : decode cX3_aboutY 3 = .ok (.getfield 34, 3) := by decide +kernel
theorem dX3_aboutY_6 : decode cX3_aboutY 6 = .ok (.aload_n 0, 1) := by decide +kernel
theorem dX3_aboutY_7 : decode cX3_aboutY 7 = .ok (.getfield 53, 3) := by decide +kernel
theorem dX3_aboutY_10 : decode cX3_aboutY 10 = .ok (.aload_n 0, 1) := by decide +kernel
theorem dX3_aboutY_11 : decode cX3_aboutY 11 = .ok (.getfield 59, 3) := by decide +kernel
theorem dX3_aboutY_14 : decode cX3_aboutY 14 = .ok (.invokevirtual 164, 3) := by decide +kernel
theorem dX3_aboutY_17 : decode cX3_aboutY 17 = .ok (.ireturn, 1) := by decide +kernel
theorem dX3_about_0 : decode cX3_about 0 = .ok (.iload_n 1, 1) := by decide +kernel
theorem dX3_about_1 : decode cX3_about 1 = .ok (.tableswitch 77 0 3 #[31, 33, 38, 53], 31) := by decide +kernel
theorem dX3_about_32 : decode cX3_about 32 = .ok (.iload_n 2, 1) := by decide +kernel
theorem dX3_about_33 : decode cX3_about 33 = .ok (.ireturn, 1) := by decide +kernel
theorem dX3_about_34 : decode cX3_about 34 = .ok (.iload_n 3, 1) := by decide +kernel
theorem dX3_about_35 : decode cX3_about 35 = .ok (.bipush 100, 2) := by decide +kernel
theorem dX3_about_37 : decode cX3_about 37 = .ok (.iadd, 1) := by decide +kernel
theorem dX3_about_38 : decode cX3_about 38 = .ok (.ireturn, 1) := by decide +kernel
theorem dX3_about_39 : decode cX3_about 39 = .ok (.aload_n 0, 1) := by decide +kernel
theorem dX3_about_40 : decode cX3_about 40 = .ok (.getfield 68, 3) := by decide +kernel
theorem dX3_about_43 : decode cX3_about 43 = .ok (.ifCond .ne 8, 3) := by decide +kernel
theorem dX3_about_46 : decode cX3_about 46 = .ok (.bipush (-6), 2) := by decide +kernel
theorem dX3_about_48 : decode cX3_about 48 = .ok (.goto 5, 3) := by decide +kernel
theorem dX3_about_51 : decode cX3_about 51 = .ok (.iload 4, 2) := by decide +kernel
theorem dX3_about_53 : decode cX3_about 53 = .ok (.ireturn, 1) := by decide +kernel
theorem dX3_about_54 : decode cX3_about 54 = .ok (.aload_n 0, 1) := by decide +kernel
theorem dX3_about_55 : decode cX3_about 55 = .ok (.getfield 68, 3) := by decide +kernel
theorem dX3_about_58 : decode cX3_about 58 = .ok (.ifCond .ne 8, 3) := by decide +kernel
theorem dX3_about_61 : decode cX3_about 61 = .ok (.bipush (-6), 2) := by decide +kernel
theorem dX3_about_63 : decode cX3_about 63 = .ok (.goto 14, 3) := by decide +kernel
theorem dX3_about_66 : decode cX3_about 66 = .ok (.iload 4, 2) := by decide +kernel
theorem dX3_about_68 : decode cX3_about 68 = .ok (.iload_n 2, 1) := by decide +kernel
theorem dX3_about_69 : decode cX3_about 69 = .ok (.bipush 16, 2) := by decide +kernel
theorem dX3_about_71 : decode cX3_about 71 = .ok (.idiv, 1) := by decide +kernel
theorem dX3_about_72 : decode cX3_about 72 = .ok (.isub, 1) := by decide +kernel
theorem dX3_about_73 : decode cX3_about 73 = .ok (.sipush 1000, 3) := by decide +kernel
theorem dX3_about_76 : decode cX3_about 76 = .ok (.iadd, 1) := by decide +kernel
theorem dX3_about_77 : decode cX3_about 77 = .ok (.ireturn, 1) := by decide +kernel
theorem dX3_about_78 : decode cX3_about 78 = .ok (.bipush (-2), 2) := by decide +kernel
theorem dX3_about_80 : decode cX3_about 80 = .ok (.ireturn, 1) := by decide +kernel
theorem dX3_number_0 : decode cX3_number 0 = .ok (.iload_n 1, 1) := by decide +kernel
theorem dX3_number_1 : decode cX3_number 1 = .ok (.bipush 10, 2) := by decide +kernel
theorem dX3_number_3 : decode cX3_number 3 = .ok (.if_icmp .lt 22, 3) := by decide +kernel
theorem dX3_number_6 : decode cX3_number 6 = .ok (.iload_n 1, 1) := by decide +kernel
theorem dX3_number_7 : decode cX3_number 7 = .ok (.bipush 10, 2) := by decide +kernel
theorem dX3_number_9 : decode cX3_number 9 = .ok (.isub, 1) := by decide +kernel
theorem dX3_number_10 : decode cX3_number 10 = .ok (.bipush 7, 2) := by decide +kernel
theorem dX3_number_12 : decode cX3_number 12 = .ok (.if_icmp .ge 13, 3) := by decide +kernel
theorem dX3_number_15 : decode cX3_number 15 = .ok (.aload_n 0, 1) := by decide +kernel
theorem dX3_number_16 : decode cX3_number 16 = .ok (.getfield 18, 3) := by decide +kernel
theorem dX3_number_19 : decode cX3_number 19 = .ok (.iload_n 1, 1) := by decide +kernel
theorem dX3_number_20 : decode cX3_number 20 = .ok (.bipush 10, 2) := by decide +kernel
theorem dX3_number_22 : decode cX3_number 22 = .ok (.isub, 1) := by decide +kernel
theorem dX3_number_23 : decode cX3_number 23 = .ok (.iaload, 1) := by decide +kernel
theorem dX3_number_24 : decode cX3_number 24 = .ok (.ireturn, 1) := by decide +kernel
theorem dX3_number_25 : decode cX3_number 25 = .ok (.iload_n 1, 1) := by decide +kernel
theorem dX3_number_26 : decode cX3_number 26 = .ok (.tableswitch 107 0 9 #[54, 59, 64, 69, 74, 79, 84, 89, 94, 102], 54) := by decide +kernel
theorem dX3_number_80 : decode cX3_number 80 = .ok (.aload_n 0, 1) := by decide +kernel
theorem dX3_number_81 : decode cX3_number 81 = .ok (.getfield 68, 3) := by decide +kernel
theorem dX3_number_84 : decode cX3_number 84 = .ok (.ireturn, 1) := by decide +kernel
theorem dX3_number_85 : decode cX3_number 85 = .ok (.aload_n 0, 1) := by decide +kernel
theorem dX3_number_86 : decode cX3_number 86 = .ok (.getfield 37, 3) := by decide +kernel
theorem dX3_number_89 : decode cX3_number 89 = .ok (.ireturn, 1) := by decide +kernel
theorem dX3_number_90 : decode cX3_number 90 = .ok (.aload_n 0, 1) := by decide +kernel
theorem dX3_number_91 : decode cX3_number 91 = .ok (.getfield 62, 3) := by decide +kernel
theorem dX3_number_94 : decode cX3_number 94 = .ok (.ireturn, 1) := by decide +kernel
theorem dX3_number_95 : decode cX3_number 95 = .ok (.aload_n 0, 1) := by decide +kernel
theorem dX3_number_96 : decode cX3_number 96 = .ok (.getfield 65, 3) := by decide +kernel
theorem dX3_number_99 : decode cX3_number 99 = .ok (.ireturn, 1) := by decide +kernel
theorem dX3_number_100 : decode cX3_number 100 = .ok (.aload_n 0, 1) := by decide +kernel
theorem dX3_number_101 : decode cX3_number 101 = .ok (.getfield 71, 3) := by decide +kernel
theorem dX3_number_104 : decode cX3_number 104 = .ok (.ireturn, 1) := by decide +kernel
theorem dX3_number_105 : decode cX3_number 105 = .ok (.aload_n 0, 1) := by decide +kernel
theorem dX3_number_106 : decode cX3_number 106 = .ok (.getfield 74, 3) := by decide +kernel
theorem dX3_number_109 : decode cX3_number 109 = .ok (.ireturn, 1) := by decide +kernel
theorem dX3_number_110 : decode cX3_number 110 = .ok (.aload_n 0, 1) := by decide +kernel
theorem dX3_number_111 : decode cX3_number 111 = .ok (.getfield 77, 3) := by decide +kernel
theorem dX3_number_114 : decode cX3_number 114 = .ok (.ireturn, 1) := by decide +kernel
theorem dX3_number_115 : decode cX3_number 115 = .ok (.aload_n 0, 1) := by decide +kernel
theorem dX3_number_116 : decode cX3_number 116 = .ok (.getfield 80, 3) := by decide +kernel
theorem dX3_number_119 : decode cX3_number 119 = .ok (.ireturn, 1) := by decide +kernel
theorem dX3_number_120 : decode cX3_number 120 = .ok (.aload_n 0, 1) := by decide +kernel
theorem dX3_number_121 : decode cX3_number 121 = .ok (.getfield 26, 3) := by decide +kernel
theorem dX3_number_124 : decode cX3_number 124 = .ok (.getfield 168, 3) := by decide +kernel
theorem dX3_number_127 : decode cX3_number 127 = .ok (.ireturn, 1) := by decide +kernel
theorem dX3_number_128 : decode cX3_number 128 = .ok (.aload_n 0, 1) := by decide +kernel
theorem dX3_number_129 : decode cX3_number 129 = .ok (.getfield 83, 3) := by decide +kernel
theorem dX3_number_132 : decode cX3_number 132 = .ok (.ireturn, 1) := by decide +kernel
theorem dX3_number_133 : decode cX3_number 133 = .ok (.bipush (-2), 2) := by decide +kernel
theorem dX3_number_135 : decode cX3_number 135 = .ok (.ireturn, 1) := by decide +kernel
theorem dJ6_compare_7cf53_0 : decode cJ6_compare_7cf53 0 = .ok (.iload_n 0, 1) := by decide +kernel
theorem dJ6_compare_7cf53_1 : decode cJ6_compare_7cf53 1 = .ok (.iload_n 1, 1) := by decide +kernel
theorem dJ6_compare_7cf53_2 : decode cJ6_compare_7cf53 2 = .ok (.if_icmp .ge 7, 3) := by decide +kernel
theorem dJ6_compare_7cf53_5 : decode cJ6_compare_7cf53 5 = .ok (.iconst (-1), 1) := by decide +kernel
theorem dJ6_compare_7cf53_6 : decode cJ6_compare_7cf53 6 = .ok (.goto 13, 3) := by decide +kernel
theorem dJ6_compare_7cf53_9 : decode cJ6_compare_7cf53 9 = .ok (.iload_n 0, 1) := by decide +kernel
theorem dJ6_compare_7cf53_10 : decode cJ6_compare_7cf53 10 = .ok (.iload_n 1, 1) := by decide +kernel
theorem dJ6_compare_7cf53_11 : decode cJ6_compare_7cf53 11 = .ok (.if_icmp .ne 7, 3) := by decide +kernel
theorem dJ6_compare_7cf53_14 : decode cJ6_compare_7cf53 14 = .ok (.iconst 0, 1) := by decide +kernel
theorem dJ6_compare_7cf53_15 : decode cJ6_compare_7cf53 15 = .ok (.goto 4, 3) := by decide +kernel
theorem dJ6_compare_7cf53_18 : decode cJ6_compare_7cf53 18 = .ok (.iconst 1, 1) := by decide +kernel
theorem dJ6_compare_7cf53_19 : decode cJ6_compare_7cf53 19 = .ok (.ireturn, 1) := by decide +kernel
theorem dJ9_floorMod_7cf53_0 : decode cJ9_floorMod_7cf53 0 = .ok (.iload_n 0, 1) := by decide +kernel
theorem dJ9_floorMod_7cf53_1 : decode cJ9_floorMod_7cf53 1 = .ok (.iload_n 1, 1) := by decide +kernel
theorem dJ9_floorMod_7cf53_2 : decode cJ9_floorMod_7cf53 2 = .ok (.irem, 1) := by decide +kernel
theorem dJ9_floorMod_7cf53_3 : decode cJ9_floorMod_7cf53 3 = .ok (.istore_n 2, 1) := by decide +kernel
theorem dJ9_floorMod_7cf53_4 : decode cJ9_floorMod_7cf53 4 = .ok (.iload_n 0, 1) := by decide +kernel
theorem dJ9_floorMod_7cf53_5 : decode cJ9_floorMod_7cf53 5 = .ok (.iload_n 1, 1) := by decide +kernel
theorem dJ9_floorMod_7cf53_6 : decode cJ9_floorMod_7cf53 6 = .ok (.ixor, 1) := by decide +kernel
theorem dJ9_floorMod_7cf53_7 : decode cJ9_floorMod_7cf53 7 = .ok (.ifCond .ge 11, 3) := by decide +kernel
theorem dJ9_floorMod_7cf53_10 : decode cJ9_floorMod_7cf53 10 = .ok (.iload_n 2, 1) := by decide +kernel
theorem dJ9_floorMod_7cf53_11 : decode cJ9_floorMod_7cf53 11 = .ok (.ifCond .eq 7, 3) := by decide +kernel
theorem dJ9_floorMod_7cf53_14 : decode cJ9_floorMod_7cf53 14 = .ok (.iload_n 2, 1) := by decide +kernel
theorem dJ9_floorMod_7cf53_15 : decode cJ9_floorMod_7cf53 15 = .ok (.iload_n 1, 1) := by decide +kernel
theorem dJ9_floorMod_7cf53_16 : decode cJ9_floorMod_7cf53 16 = .ok (.iadd, 1) := by decide +kernel
theorem dJ9_floorMod_7cf53_17 : decode cJ9_floorMod_7cf53 17 = .ok (.ireturn, 1) := by decide +kernel
theorem dJ9_floorMod_7cf53_18 : decode cJ9_floorMod_7cf53 18 = .ok (.iload_n 2, 1) := by decide +kernel
theorem dJ9_floorMod_7cf53_19 : decode cJ9_floorMod_7cf53 19 = .ok (.ireturn, 1) := by decide +kernel
theorem dJ9_abs_0f7a4_0 : decode cJ9_abs_0f7a4 0 = .ok (.iload_n 0, 1) := by decide +kernel
theorem dJ9_abs_0f7a4_1 : decode cJ9_abs_0f7a4 1 = .ok (.ifCond .ge 8, 3) := by decide +kernel
theorem dJ9_abs_0f7a4_4 : decode cJ9_abs_0f7a4 4 = .ok (.iload_n 0, 1) := by decide +kernel
theorem dJ9_abs_0f7a4_5 : decode cJ9_abs_0f7a4 5 = .ok (.ineg, 1) := by decide +kernel
theorem dJ9_abs_0f7a4_6 : decode cJ9_abs_0f7a4 6 = .ok (.goto 4, 3) := by decide +kernel
theorem dJ9_abs_0f7a4_9 : decode cJ9_abs_0f7a4 9 = .ok (.iload_n 0, 1) := by decide +kernel
theorem dJ9_abs_0f7a4_10 : decode cJ9_abs_0f7a4 10 = .ok (.ireturn, 1) := by decide +kernel
theorem dJ9_max_7cf53_0 : decode cJ9_max_7cf53 0 = .ok (.iload_n 0, 1) := by decide +kernel
theorem dJ9_max_7cf53_1 : decode cJ9_max_7cf53 1 = .ok (.iload_n 1, 1) := by decide +kernel
theorem dJ9_max_7cf53_2 : decode cJ9_max_7cf53 2 = .ok (.if_icmp .lt 7, 3) := by decide +kernel
theorem dJ9_max_7cf53_5 : decode cJ9_max_7cf53 5 = .ok (.iload_n 0, 1) := by decide +kernel
theorem dJ9_max_7cf53_6 : decode cJ9_max_7cf53 6 = .ok (.goto 4, 3) := by decide +kernel
theorem dJ9_max_7cf53_9 : decode cJ9_max_7cf53 9 = .ok (.iload_n 1, 1) := by decide +kernel
theorem dJ9_max_7cf53_10 : decode cJ9_max_7cf53 10 = .ok (.ireturn, 1) := by decide +kernel
theorem dJ9_min_7cf53_0 : decode cJ9_min_7cf53 0 = .ok (.iload_n 0, 1) := by decide +kernel
theorem dJ9_min_7cf53_1 : decode cJ9_min_7cf53 1 = .ok (.iload_n 1, 1) := by decide +kernel
theorem dJ9_min_7cf53_2 : decode cJ9_min_7cf53 2 = .ok (.if_icmp .gt 7, 3) := by decide +kernel
theorem dJ9_min_7cf53_5 : decode cJ9_min_7cf53 5 = .ok (.iload_n 0, 1) := by decide +kernel
theorem dJ9_min_7cf53_6 : decode cJ9_min_7cf53 6 = .ok (.goto 4, 3) := by decide +kernel
theorem dJ9_min_7cf53_9 : decode cJ9_min_7cf53 9 = .ok (.iload_n 1, 1) := by decide +kernel
theorem dJ9_min_7cf53_10 : decode cJ9_min_7cf53 10 = .ok (.ireturn, 1) := by decide +kernel
end
section
theorem dX4_init_0 : decode cX4_init 0 = .ok (.aload_n 0, 1) := by decide +kernel
theorem dX4_init_1 : decode cX4_init 1 = .ok (.invokespecial 1, 3) := by decide +kernel
theorem dX4_init_4 : decode cX4_init 4 = .ok (.aload_n 0, 1) := by decide +kernel
theorem dX4_init_5 : decode cX4_init 5 = .ok (.new 7, 3) := by decide +kernel
theorem dX4_init_8 : decode cX4_init 8 = .ok (.dup, 1) := by decide +kernel
theorem dX4_init_9 : decode cX4_init 9 = .ok (.invokespecial 9, 3) := by decide +kernel
theorem dX4_init_12 : decode cX4_init 12 = .ok (.putfield 10, 3) := by decide +kernel
theorem dX4_init_15 : decode cX4_init 15 = .ok (.aload_n 0, 1) := by decide +kernel
theorem dX4_init_16 : decode cX4_init 16 = .ok (.new 7, 3) := by decide +kernel
theorem dX4_init_19 : decode cX4_init 19 = .ok (.dup, 1) := by decide +kernel
theorem dX4_init_20 : decode cX4_init 20 = .ok (.invokespecial 9, 3) := by decide +kernel
theorem dX4_init_23 : decode cX4_init 23 = .ok (.putfield 16, 3) := by decide +kernel
theorem dX4_init_26 : decode cX4_init 26 = .ok (.aload_n 0, 1) := by decide +kernel
theorem dX4_init_27 : decode cX4_init 27 = .ok (.new 19, 3) := by decide +kernel
theorem dX4_init_30 : decode cX4_init 30 = .ok (.dup, 1) := by decide +kernel
theorem dX4_init_31 : decode cX4_init 31 = .ok (.invokespecial 21, 3) := by decide +kernel
theorem dX4_init_34 : decode cX4_init 34 = .ok (.putfield 22, 3) := by decide +kernel
theorem dX4_init_37 : decode cX4_init 37 = .ok (.aload_n 0, 1) := by decide +kernel
theorem dX4_init_38 : decode cX4_init 38 = .ok (.new 26, 3) := by decide +kernel
theorem dX4_init_41 : decode cX4_init 41 = .ok (.dup, 1) := by decide +kernel
theorem dX4_init_42 : decode cX4_init 42 = .ok (.invokespecial 28, 3) := by decide +kernel
theorem dX4_init_45 : decode cX4_init 45 = .ok (.putfield 29, 3) := by decide +kernel
theorem dX4_init_48 : decode cX4_init 48 = .ok (.aload_n 0, 1) := by decide +kernel
theorem dX4_init_49 : decode cX4_init 49 = .ok (.iconst 2, 1) := by decide +kernel
theorem dX4_init_50 : decode cX4_init 50 = .ok (.anewarray 7, 3) := by decide +kernel
theorem dX4_init_53 : decode cX4_init 53 = .ok (.putfield 33, 3) := by decide +kernel
theorem dX4_init_56 : decode cX4_init 56 = .ok (.return_, 1) := by decide +kernel
theorem dX4_set_0 : decode cX4_set 0 = .ok (.iload_n 1, 1) := by decide +kernel
theorem dX4_set_1 : decode cX4_set 1 = .ok (.ifCond .lt 27, 3) := by decide +kernel
theorem dX4_set_4 : decode cX4_set 4 = .ok (.iload_n 1, 1) := by decide +kernel
theorem dX4_set_5 : decode cX4_set 5 = .ok (.bipush 7, 2) := by decide +kernel
theorem dX4_set_7 : decode cX4_set 7 = .ok (.if_icmp .ge 21, 3) := by decide +kernel
theorem dX4_set_10 : decode cX4_set 10 = .ok (.iload_n 2, 1) := by decide +kernel
theorem dX4_set_11 : decode cX4_set 11 = .ok (.getstatic 37, 3) := by decide +kernel
theorem dX4_set_14 : decode cX4_set 14 = .ok (.iload_n 1, 1) := by decide +kernel
theorem dX4_set_15 : decode cX4_set 15 = .ok (.iaload, 1) := by decide +kernel
theorem dX4_set_16 : decode cX4_set 16 = .ok (.if_icmp .lt 12, 3) := by decide +kernel
theorem dX4_set_19 : decode cX4_set 19 = .ok (.iload_n 2, 1) := by decide +kernel
theorem dX4_set_20 : decode cX4_set 20 = .ok (.getstatic 41, 3) := by decide +kernel
theorem dX4_set_23 : decode cX4_set 23 = .ok (.iload_n 1, 1) := by decide +kernel
theorem dX4_set_24 : decode cX4_set 24 = .ok (.iaload, 1) := by decide +kernel
theorem dX4_set_25 : decode cX4_set 25 = .ok (.if_icmp .le 6, 3) := by decide +kernel
theorem dX4_set_28 : decode cX4_set 28 = .ok (.bipush (-2), 2) := by decide +kernel
theorem dX4_set_30 : decode cX4_set 30 = .ok (.ireturn, 1) := by decide +kernel
theorem dX4_set_31 : decode cX4_set 31 = .ok (.aload_n 0, 1) := by decide +kernel
theorem dX4_set_32 : decode cX4_set 32 = .ok (.getfield 29, 3) := by decide +kernel
theorem dX4_set_35 : decode cX4_set 35 = .ok (.aload_n 0, 1) := by decide +kernel
theorem dX4_set_36 : decode cX4_set 36 = .ok (.getfield 10, 3) := by decide +kernel
theorem dX4_set_39 : decode cX4_set 39 = .ok (.invokevirtual 44, 3) := by decide +kernel
theorem dX4_set_42 : decode cX4_set 42 = .ok (.aload_n 0, 1) := by decide +kernel
theorem dX4_set_43 : decode cX4_set 43 = .ok (.getfield 10, 3) := by decide +kernel
theorem dX4_set_46 : decode cX4_set 46 = .ok (.iload_n 1, 1) := by decide +kernel
theorem dX4_set_47 : decode cX4_set 47 = .ok (.iload_n 2, 1) := by decide +kernel
theorem dX4_set_48 : decode cX4_set 48 = .ok (.invokevirtual 48, 3) := by decide +kernel
theorem dX4_set_51 : decode cX4_set 51 = .ok (.ireturn, 1) := by decide +kernel
theorem dX4_sample_0 : decode cX4_sample 0 = .ok (.aload_n 0, 1) := by decide +kernel
theorem dX4_sample_1 : decode cX4_sample 1 = .ok (.iload_n 1, 1) := by decide +kernel
theorem dX4_sample_2 : decode cX4_sample 2 = .ok (.iload_n 2, 1) := by decide +kernel
theorem dX4_sample_3 : decode cX4_sample 3 = .ok (.iconst 1, 1) := by decide +kernel
theorem dX4_sample_4 : decode cX4_sample 4 = .ok (.invokevirtual 52, 3) := by decide +kernel
theorem dX4_sample_7 : decode cX4_sample 7 = .ok (.ireturn, 1) := by decide +kernel
theorem dX4_hold_0 : decode cX4_hold 0 = .ok (.iload_n 3, 1) := by decide +kernel
theorem dX4_hold_1 : decode cX4_hold 1 = .ok (.iconst 1, 1) := by decide +kernel
theorem dX4_hold_2 : decode cX4_hold 2 = .ok (.if_icmp .lt 10, 3) := by decide +kernel
theorem dX4_hold_5 : decode cX4_hold 5 = .ok (.iload_n 3, 1) := by decide +kernel
theorem dX4_hold_6 : decode cX4_hold 6 = .ok (.sipush 200, 3) := by decide +kernel
theorem dX4_hold_9 : decode cX4_hold 9 = .ok (.if_icmp .le 6, 3) := by decide +kernel
theorem dX4_hold_12 : decode cX4_hold 12 = .ok (.bipush (-2), 2) := by decide +kernel
theorem dX4_hold_14 : decode cX4_hold 14 = .ok (.ireturn, 1) := by decide +kernel
theorem dX4_hold_15 : decode cX4_hold 15 = .ok (.aload_n 0, 1) := by decide +kernel
theorem dX4_hold_16 : decode cX4_hold 16 = .ok (.iload_n 1, 1) := by decide +kernel
theorem dX4_hold_17 : decode cX4_hold 17 = .ok (.iload_n 2, 1) := by decide +kernel
theorem dX4_hold_18 : decode cX4_hold 18 = .ok (.iload_n 3, 1) := by decide +kernel
theorem dX4_hold_19 : decode cX4_hold 19 = .ok (.invokevirtual 52, 3) := by decide +kernel
theorem dX4_hold_22 : decode cX4_hold 22 = .ok (.ireturn, 1) := by decide +kernel
theorem dX4_takeAlike_0 : decode cX4_takeAlike 0 = .ok (.aload_n 0, 1) := by decide +kernel
theorem dX4_takeAlike_1 : decode cX4_takeAlike 1 = .ok (.getfield 10, 3) := by decide +kernel
theorem dX4_takeAlike_4 : decode cX4_takeAlike 4 = .ok (.iload_n 1, 1) := by decide +kernel
theorem dX4_takeAlike_5 : decode cX4_takeAlike 5 = .ok (.iload_n 2, 1) := by decide +kernel
theorem dX4_takeAlike_6 : decode cX4_takeAlike 6 = .ok (.iload_n 3, 1) := by decide +kernel
theorem dX4_takeAlike_7 : decode cX4_takeAlike 7 = .ok (.invokevirtual 56, 3) := by decide +kernel
theorem dX4_takeAlike_10 : decode cX4_takeAlike 10 = .ok (.istore 4, 2) := by decide +kernel
theorem dX4_takeAlike_12 : decode cX4_takeAlike 12 = .ok (.iload 4, 2) := by decide +kernel
theorem dX4_takeAlike_14 : decode cX4_takeAlike 14 = .ok (.ifCond .eq 6, 3) := by decide +kernel
theorem dX4_takeAlike_17 : decode cX4_takeAlike 17 = .ok (.iload 4, 2) := by decide +kernel
theorem dX4_takeAlike_19 : decode cX4_takeAlike 19 = .ok (.ireturn, 1) := by decide +kernel
theorem dX4_takeAlike_20 : decode cX4_takeAlike 20 = .ok (.aload_n 0, 1) := by decide +kernel
theorem dX4_takeAlike_21 : decode cX4_takeAlike 21 = .ok (.getfield 29, 3) := by decide +kernel
theorem dX4_takeAlike_24 : decode cX4_takeAlike 24 = .ok (.aload_n 0, 1) := by decide +kernel
theorem dX4_takeAlike_25 : decode cX4_takeAlike 25 = .ok (.getfield 10, 3) := by decide +kernel
theorem dX4_takeAlike_28 : decode cX4_takeAlike 28 = .ok (.invokevirtual 44, 3) := by decide +kernel
theorem dX4_takeAlike_31 : decode cX4_takeAlike 31 = .ok (.iconst 0, 1) := by decide +kernel
theorem dX4_takeAlike_32 : decode cX4_takeAlike 32 = .ok (.istore 5, 2) := by decide +kernel
theorem dX4_takeAlike_34 : decode cX4_takeAlike 34 = .ok (.iload 5, 2) := by decide +kernel
theorem dX4_takeAlike_36 : decode cX4_takeAlike 36 = .ok (.iload_n 3, 1) := by decide +kernel
theorem dX4_takeAlike_37 : decode cX4_takeAlike 37 = .ok (.if_icmp .ge 18, 3) := by decide +kernel
theorem dX4_takeAlike_40 : decode cX4_takeAlike 40 = .ok (.aload_n 0, 1) := by decide +kernel
theorem dX4_takeAlike_41 : decode cX4_takeAlike 41 = .ok (.getfield 10, 3) := by decide +kernel
theorem dX4_takeAlike_44 : decode cX4_takeAlike 44 = .ok (.iload_n 1, 1) := by decide +kernel
theorem dX4_takeAlike_45 : decode cX4_takeAlike 45 = .ok (.iload_n 2, 1) := by decide +kernel
theorem dX4_takeAlike_46 : decode cX4_takeAlike 46 = .ok (.invokevirtual 59, 3) := by decide +kernel
theorem dX4_takeAlike_49 : decode cX4_takeAlike 49 = .ok (.iinc 5 1, 3) := by decide +kernel
theorem dX4_takeAlike_52 : decode cX4_takeAlike 52 = .ok (.goto (-18), 3) := by decide +kernel
theorem dX4_takeAlike_55 : decode cX4_takeAlike 55 = .ok (.aload_n 0, 1) := by decide +kernel
theorem dX4_takeAlike_56 : decode cX4_takeAlike 56 = .ok (.getfield 10, 3) := by decide +kernel
theorem dX4_takeAlike_59 : decode cX4_takeAlike 59 = .ok (.invokevirtual 63, 3) := by decide +kernel
theorem dX4_takeAlike_62 : decode cX4_takeAlike 62 = .ok (.ireturn, 1) := by decide +kernel
theorem dX4_press_0 : decode cX4_press 0 = .ok (.aload_n 0, 1) := by decide +kernel
theorem dX4_press_1 : decode cX4_press 1 = .ok (.getfield 10, 3) := by decide +kernel
theorem dX4_press_4 : decode cX4_press 4 = .ok (.iload_n 1, 1) := by decide +kernel
theorem dX4_press_5 : decode cX4_press 5 = .ok (.invokevirtual 67, 3) := by decide +kernel
theorem dX4_press_8 : decode cX4_press 8 = .ok (.istore_n 2, 1) := by decide +kernel
theorem dX4_press_9 : decode cX4_press 9 = .ok (.iload_n 2, 1) := by decide +kernel
theorem dX4_press_10 : decode cX4_press 10 = .ok (.ifCond .eq 5, 3) := by decide +kernel
theorem dX4_press_13 : decode cX4_press 13 = .ok (.iload_n 2, 1) := by decide +kernel
theorem dX4_press_14 : decode cX4_press 14 = .ok (.ireturn, 1) := by decide +kernel
theorem dX4_press_15 : decode cX4_press 15 = .ok (.aload_n 0, 1) := by decide +kernel
theorem dX4_press_16 : decode cX4_press 16 = .ok (.getfield 29, 3) := by decide +kernel
theorem dX4_press_19 : decode cX4_press 19 = .ok (.aload_n 0, 1) := by decide +kernel
theorem dX4_press_20 : decode cX4_press 20 = .ok (.getfield 10, 3) := by decide +kernel
theorem dX4_press_23 : decode cX4_press 23 = .ok (.invokevirtual 44, 3) := by decide +kernel
theorem dX4_press_26 : decode cX4_press 26 = .ok (.aload_n 0, 1) := by decide +kernel
theorem dX4_press_27 : decode cX4_press 27 = .ok (.getfield 10, 3) := by decide +kernel
theorem dX4_press_30 : decode cX4_press 30 = .ok (.iload_n 1, 1) := by decide +kernel
theorem dX4_press_31 : decode cX4_press 31 = .ok (.invokevirtual 71, 3) := by decide +kernel
theorem dX4_press_34 : decode cX4_press 34 = .ok (.ireturn, 1) := by decide +kernel
theorem dX4_letUp_0 : decode cX4_letUp 0 = .ok (.aload_n 0, 1) := by decide +kernel
theorem dX4_letUp_1 : decode cX4_letUp 1 = .ok (.getfield 10, 3) := by decide +kernel
theorem dX4_letUp_4 : decode cX4_letUp 4 = .ok (.iload_n 1, 1) := by decide +kernel
theorem dX4_letUp_5 : decode cX4_letUp 5 = .ok (.invokevirtual 74, 3) := by decide +kernel
theorem dX4_letUp_8 : decode cX4_letUp 8 = .ok (.istore_n 2, 1) := by decide +kernel
theorem dX4_letUp_9 : decode cX4_letUp 9 = .ok (.iload_n 2, 1) := by decide +kernel
theorem dX4_letUp_10 : decode cX4_letUp 10 = .ok (.ifCond .eq 5, 3) := by decide +kernel
theorem dX4_letUp_13 : decode cX4_letUp 13 = .ok (.iload_n 2, 1) := by decide +kernel
theorem dX4_letUp_14 : decode cX4_letUp 14 = .ok (.ireturn, 1) := by decide +kernel
theorem dX4_letUp_15 : decode cX4_letUp 15 = .ok (.aload_n 0, 1) := by decide +kernel
theorem dX4_letUp_16 : decode cX4_letUp 16 = .ok (.getfield 29, 3) := by decide +kernel
theorem dX4_letUp_19 : decode cX4_letUp 19 = .ok (.aload_n 0, 1) := by decide +kernel
theorem dX4_letUp_20 : decode cX4_letUp 20 = .ok (.getfield 10, 3) := by decide +kernel
theorem dX4_letUp_23 : decode cX4_letUp 23 = .ok (.invokevirtual 44, 3) := by decide +kernel
theorem dX4_letUp_26 : decode cX4_letUp 26 = .ok (.aload_n 0, 1) := by decide +kernel
theorem dX4_letUp_27 : decode cX4_letUp 27 = .ok (.getfield 10, 3) := by decide +kernel
theorem dX4_letUp_30 : decode cX4_letUp 30 = .ok (.iload_n 1, 1) := by decide +kernel
theorem dX4_letUp_31 : decode cX4_letUp 31 = .ok (.invokevirtual 77, 3) := by decide +kernel
theorem dX4_letUp_34 : decode cX4_letUp 34 = .ok (.ireturn, 1) := by decide +kernel
theorem dX4_reset_0 : decode cX4_reset 0 = .ok (.aload_n 0, 1) := by decide +kernel
theorem dX4_reset_1 : decode cX4_reset 1 = .ok (.getfield 29, 3) := by decide +kernel
theorem dX4_reset_4 : decode cX4_reset 4 = .ok (.aload_n 0, 1) := by decide +kernel
theorem dX4_reset_5 : decode cX4_reset 5 = .ok (.getfield 10, 3) := by decide +kernel
theorem dX4_reset_8 : decode cX4_reset 8 = .ok (.invokevirtual 44, 3) := by decide +kernel
theorem dX4_reset_11 : decode cX4_reset 11 = .ok (.aload_n 0, 1) := by decide +kernel
theorem dX4_reset_12 : decode cX4_reset 12 = .ok (.getfield 10, 3) := by decide +kernel
theorem dX4_reset_15 : decode cX4_reset 15 = .ok (.invokevirtual 80, 3) := by decide +kernel
theorem dX4_reset_18 : decode cX4_reset 18 = .ok (.ireturn, 1) := by decide +kernel
theorem dX4_of_0 : decode cX4_of 0 = .ok (.iload_n 1, 1) := by decide +kernel
theorem dX4_of_1 : decode cX4_of 1 = .ok (.ifCond .eq 10, 3) := by decide +kernel
theorem dX4_of_4 : decode cX4_of 4 = .ok (.iload_n 1, 1) := by decide +kernel
theorem dX4_of_5 : decode cX4_of 5 = .ok (.iconst 1, 1) := by decide +kernel
theorem dX4_of_6 : decode cX4_of 6 = .ok (.if_icmp .eq 5, 3) := by decide +kernel
theorem dX4_of_9 : decode cX4_of 9 = .ok (.iconst (-1), 1) := by decide +kernel
theorem dX4_of_10 : decode cX4_of 10 = .ok (.ireturn, 1) := by decide +kernel
theorem dX4_of_11 : decode cX4_of 11 = .ok (.iload_n 1, 1) := by decide +kernel
theorem dX4_of_12 : decode cX4_of 12 = .ok (.ifCond .ne 14, 3) := by decide +kernel
theorem dX4_of_15 : decode cX4_of 15 = .ok (.aload_n 0, 1) := by decide +kernel
theorem dX4_of_16 : decode cX4_of 16 = .ok (.getfield 10, 3) := by decide +kernel
theorem dX4_of_19 : decode cX4_of 19 = .ok (.iload_n 2, 1) := by decide +kernel
theorem dX4_of_20 : decode cX4_of 20 = .ok (.invokevirtual 83, 3) := by decide +kernel
theorem dX4_of_23 : decode cX4_of 23 = .ok (.goto 11, 3) := by decide +kernel
theorem dX4_of_26 : decode cX4_of 26 = .ok (.aload_n 0, 1) := by decide +kernel
theorem dX4_of_27 : decode cX4_of 27 = .ok (.getfield 10, 3) := by decide +kernel
theorem dX4_of_30 : decode cX4_of 30 = .ok (.iload_n 2, 1) := by decide +kernel
theorem dX4_of_31 : decode cX4_of 31 = .ok (.invokevirtual 86, 3) := by decide +kernel
theorem dX4_of_34 : decode cX4_of 34 = .ok (.ireturn, 1) := by decide +kernel
theorem dX4_direction_0 : decode cX4_direction 0 = .ok (.aload_n 0, 1) := by decide +kernel
theorem dX4_direction_1 : decode cX4_direction 1 = .ok (.getfield 10, 3) := by decide +kernel
theorem dX4_direction_4 : decode cX4_direction 4 = .ok (.getfield 89, 3) := by decide +kernel
theorem dX4_direction_7 : decode cX4_direction 7 = .ok (.iload_n 1, 1) := by decide +kernel
theorem dX4_direction_8 : decode cX4_direction 8 = .ok (.iload_n 2, 1) := by decide +kernel
theorem dX4_direction_9 : decode cX4_direction 9 = .ok (.invokevirtual 93, 3) := by decide +kernel
theorem dX4_direction_12 : decode cX4_direction 12 = .ok (.ireturn, 1) := by decide +kernel
theorem dX4_count_0 : decode cX4_count 0 = .ok (.iload_n 1, 1) := by decide +kernel
theorem dX4_count_1 : decode cX4_count 1 = .ok (.lookupswitch 43 #[(17, 27), (18, 35)], 27) := by decide +kernel
theorem dX4_count_28 : decode cX4_count 28 = .ok (.aload_n 0, 1) := by decide +kernel
theorem dX4_count_29 : decode cX4_count 29 = .ok (.getfield 22, 3) := by decide +kernel
theorem dX4_count_32 : decode cX4_count 32 = .ok (.getfield 98, 3) := by decide +kernel
theorem dX4_count_35 : decode cX4_count 35 = .ok (.ireturn, 1) := by decide +kernel
theorem dX4_count_36 : decode cX4_count 36 = .ok (.aload_n 0, 1) := by decide +kernel
theorem dX4_count_37 : decode cX4_count 37 = .ok (.getfield 29, 3) := by decide +kernel
theorem dX4_count_40 : decode cX4_count 40 = .ok (.getfield 102, 3) := by decide +kernel
theorem dX4_count_43 : decode cX4_count 43 = .ok (.ireturn, 1) := by decide +kernel
theorem dX4_count_44 : decode cX4_count 44 = .ok (.aload_n 0, 1) := by decide +kernel
theorem dX4_count_45 : decode cX4_count 45 = .ok (.getfield 10, 3) := by decide +kernel
theorem dX4_count_48 : decode cX4_count 48 = .ok (.iload_n 1, 1) := by decide +kernel
theorem dX4_count_49 : decode cX4_count 49 = .ok (.invokevirtual 105, 3) := by decide +kernel
theorem dX4_count_52 : decode cX4_count 52 = .ok (.ireturn, 1) := by decide +kernel
theorem dX4_wouldTell_0 : decode cX4_wouldTell 0 = .ok (.iload_n 1, 1) := by decide +kernel
theorem dX4_wouldTell_1 : decode cX4_wouldTell 1 = .ok (.iload_n 2, 1) := by decide +kernel
theorem dX4_wouldTell_2 : decode cX4_wouldTell 2 = .ok (.invokestatic 108, 3) := by decide +kernel
theorem dX4_wouldTell_5 : decode cX4_wouldTell 5 = .ok (.ifCond .eq 15, 3) := by decide +kernel
theorem dX4_wouldTell_8 : decode cX4_wouldTell 8 = .ok (.aload_n 0, 1) := by decide +kernel
theorem dX4_wouldTell_9 : decode cX4_wouldTell 9 = .ok (.getfield 10, 3) := by decide +kernel
theorem dX4_wouldTell_12 : decode cX4_wouldTell 12 = .ok (.iload_n 1, 1) := by decide +kernel
theorem dX4_wouldTell_13 : decode cX4_wouldTell 13 = .ok (.iload_n 2, 1) := by decide +kernel
theorem dX4_wouldTell_14 : decode cX4_wouldTell 14 = .ok (.invokevirtual 112, 3) := by decide +kernel
theorem dX4_wouldTell_17 : decode cX4_wouldTell 17 = .ok (.goto 5, 3) := by decide +kernel
theorem dX4_wouldTell_20 : decode cX4_wouldTell 20 = .ok (.bipush (-2), 2) := by decide +kernel
theorem dX4_wouldTell_22 : decode cX4_wouldTell 22 = .ok (.ireturn, 1) := by decide +kernel
theorem dX4_learnedIn_0 : decode cX4_learnedIn 0 = .ok (.iload_n 1, 1) := by decide +kernel
theorem dX4_learnedIn_1 : decode cX4_learnedIn 1 = .ok (.iload_n 2, 1) := by decide +kernel
theorem dX4_learnedIn_2 : decode cX4_learnedIn 2 = .ok (.invokestatic 108, 3) := by decide +kernel
theorem dX4_learnedIn_5 : decode cX4_learnedIn 5 = .ok (.ifCond .ne 6, 3) := by decide +kernel
theorem dX4_learnedIn_8 : decode cX4_learnedIn 8 = .ok (.bipush (-2), 2) := by decide +kernel
theorem dX4_learnedIn_10 : decode cX4_learnedIn 10 = .ok (.ireturn, 1) := by decide +kernel
theorem dX4_learnedIn_11 : decode cX4_learnedIn 11 = .ok (.aload_n 0, 1) := by decide +kernel
theorem dX4_learnedIn_12 : decode cX4_learnedIn 12 = .ok (.getfield 16, 3) := by decide +kernel
theorem dX4_learnedIn_15 : decode cX4_learnedIn 15 = .ok (.aload_n 0, 1) := by decide +kernel
theorem dX4_learnedIn_16 : decode cX4_learnedIn 16 = .ok (.getfield 10, 3) := by decide +kernel
theorem dX4_learnedIn_19 : decode cX4_learnedIn 19 = .ok (.invokevirtual 115, 3) := by decide +kernel
theorem dX4_learnedIn_22 : decode cX4_learnedIn 22 = .ok (.iconst 0, 1) := by decide +kernel
theorem dX4_learnedIn_23 : decode cX4_learnedIn 23 = .ok (.istore_n 3, 1) := by decide +kernel
theorem dX4_learnedIn_24 : decode cX4_learnedIn 24 = .ok (.iload_n 3, 1) := by decide +kernel
theorem dX4_learnedIn_25 : decode cX4_learnedIn 25 = .ok (.sipush 500, 3) := by decide +kernel
theorem dX4_learnedIn_28 : decode cX4_learnedIn 28 = .ok (.if_icmp .gt 32, 3) := by decide +kernel
theorem dX4_learnedIn_31 : decode cX4_learnedIn 31 = .ok (.aload_n 0, 1) := by decide +kernel
theorem dX4_learnedIn_32 : decode cX4_learnedIn 32 = .ok (.getfield 16, 3) := by decide +kernel
theorem dX4_learnedIn_35 : decode cX4_learnedIn 35 = .ok (.iload_n 1, 1) := by decide +kernel
theorem dX4_learnedIn_36 : decode cX4_learnedIn 36 = .ok (.iload_n 2, 1) := by decide +kernel
theorem dX4_learnedIn_37 : decode cX4_learnedIn 37 = .ok (.invokevirtual 118, 3) := by decide +kernel
theorem dX4_learnedIn_40 : decode cX4_learnedIn 40 = .ok (.ifCond .eq 5, 3) := by decide +kernel
theorem dX4_learnedIn_43 : decode cX4_learnedIn 43 = .ok (.iload_n 3, 1) := by decide +kernel
theorem dX4_learnedIn_44 : decode cX4_learnedIn 44 = .ok (.ireturn, 1) := by decide +kernel
theorem dX4_learnedIn_45 : decode cX4_learnedIn 45 = .ok (.aload_n 0, 1) := by decide +kernel
theorem dX4_learnedIn_46 : decode cX4_learnedIn 46 = .ok (.getfield 16, 3) := by decide +kernel
theorem dX4_learnedIn_49 : decode cX4_learnedIn 49 = .ok (.iload_n 1, 1) := by decide +kernel
theorem dX4_learnedIn_50 : decode cX4_learnedIn 50 = .ok (.iload_n 2, 1) := by decide +kernel
theorem dX4_learnedIn_51 : decode cX4_learnedIn 51 = .ok (.invokevirtual 59, 3) := by decide +kernel
theorem dX4_learnedIn_54 : decode cX4_learnedIn 54 = .ok (.iinc 3 1, 3) := by decide +kernel
theorem dX4_learnedIn_57 : decode cX4_learnedIn 57 = .ok (.goto (-33), 3) := by decide +kernel
theorem dX4_learnedIn_60 : decode cX4_learnedIn 60 = .ok (.bipush (-6), 2) := by decide +kernel
theorem dX4_learnedIn_62 : decode cX4_learnedIn 62 = .ok (.ireturn, 1) := by decide +kernel
theorem dX4_edge_0 : decode cX4_edge 0 = .ok (.iload_n 1, 1) := by decide +kernel
theorem dX4_edge_1 : decode cX4_edge 1 = .ok (.ifCond .eq 10, 3) := by decide +kernel
theorem dX4_edge_4 : decode cX4_edge 4 = .ok (.iload_n 1, 1) := by decide +kernel
theorem dX4_edge_5 : decode cX4_edge 5 = .ok (.iconst 1, 1) := by decide +kernel
theorem dX4_edge_6 : decode cX4_edge 6 = .ok (.if_icmp .eq 5, 3) := by decide +kernel
theorem dX4_edge_9 : decode cX4_edge 9 = .ok (.iconst (-1), 1) := by decide +kernel
theorem dX4_edge_10 : decode cX4_edge 10 = .ok (.ireturn, 1) := by decide +kernel
theorem dX4_edge_11 : decode cX4_edge 11 = .ok (.iload_n 2, 1) := by decide +kernel
theorem dX4_edge_12 : decode cX4_edge 12 = .ok (.ifCond .eq 11, 3) := by decide +kernel
theorem dX4_edge_15 : decode cX4_edge 15 = .ok (.iload_n 2, 1) := by decide +kernel
theorem dX4_edge_16 : decode cX4_edge 16 = .ok (.iconst 1, 1) := by decide +kernel
theorem dX4_edge_17 : decode cX4_edge 17 = .ok (.if_icmp .eq 6, 3) := by decide +kernel
theorem dX4_edge_20 : decode cX4_edge 20 = .ok (.bipush (-2), 2) := by decide +kernel
theorem dX4_edge_22 : decode cX4_edge 22 = .ok (.ireturn, 1) := by decide +kernel
theorem dX4_edge_23 : decode cX4_edge 23 = .ok (.iload_n 2, 1) := by decide +kernel
theorem dX4_edge_24 : decode cX4_edge 24 = .ok (.iconst 1, 1) := by decide +kernel
theorem dX4_edge_25 : decode cX4_edge 25 = .ok (.if_icmp .ne 7, 3) := by decide +kernel
theorem dX4_edge_28 : decode cX4_edge 28 = .ok (.iconst 1, 1) := by decide +kernel
theorem dX4_edge_29 : decode cX4_edge 29 = .ok (.goto 4, 3) := by decide +kernel
theorem dX4_edge_32 : decode cX4_edge 32 = .ok (.iconst (-1), 1) := by decide +kernel
theorem dX4_edge_33 : decode cX4_edge 33 = .ok (.istore_n 3, 1) := by decide +kernel
theorem dX4_edge_34 : decode cX4_edge 34 = .ok (.iconst 1, 1) := by decide +kernel
theorem dX4_edge_35 : decode cX4_edge 35 = .ok (.istore 4, 2) := by decide +kernel
theorem dX4_edge_37 : decode cX4_edge 37 = .ok (.iload 4, 2) := by decide +kernel
theorem dX4_edge_39 : decode cX4_edge 39 = .ok (.sipush 255, 3) := by decide +kernel
theorem dX4_edge_42 : decode cX4_edge 42 = .ok (.if_icmp .gt 86, 3) := by decide +kernel
theorem dX4_edge_45 : decode cX4_edge 45 = .ok (.aload_n 0, 1) := by decide +kernel
theorem dX4_edge_46 : decode cX4_edge 46 = .ok (.getfield 10, 3) := by decide +kernel
theorem dX4_edge_49 : decode cX4_edge 49 = .ok (.invokevirtual 121, 3) := by decide +kernel
theorem dX4_edge_52 : decode cX4_edge 52 = .ok (.iload_n 1, 1) := by decide +kernel
theorem dX4_edge_53 : decode cX4_edge 53 = .ok (.ifCond .ne 10, 3) := by decide +kernel
theorem dX4_edge_56 : decode cX4_edge 56 = .ok (.iload_n 3, 1) := by decide +kernel
theorem dX4_edge_57 : decode cX4_edge 57 = .ok (.iload 4, 2) := by decide +kernel
theorem dX4_edge_59 : decode cX4_edge 59 = .ok (.imul, 1) := by decide +kernel
theorem dX4_edge_60 : decode cX4_edge 60 = .ok (.goto 4, 3) := by decide +kernel
theorem dX4_edge_63 : decode cX4_edge 63 = .ok (.iconst 0, 1) := by decide +kernel
theorem dX4_edge_64 : decode cX4_edge 64 = .ok (.iadd, 1) := by decide +kernel
theorem dX4_edge_65 : decode cX4_edge 65 = .ok (.istore 5, 2) := by decide +kernel
theorem dX4_edge_67 : decode cX4_edge 67 = .ok (.aload_n 0, 1) := by decide +kernel
theorem dX4_edge_68 : decode cX4_edge 68 = .ok (.getfield 10, 3) := by decide +kernel
theorem dX4_edge_71 : decode cX4_edge 71 = .ok (.invokevirtual 124, 3) := by decide +kernel
theorem dX4_edge_74 : decode cX4_edge 74 = .ok (.iload_n 1, 1) := by decide +kernel
theorem dX4_edge_75 : decode cX4_edge 75 = .ok (.iconst 1, 1) := by decide +kernel
theorem dX4_edge_76 : decode cX4_edge 76 = .ok (.if_icmp .ne 10, 3) := by decide +kernel
theorem dX4_edge_79 : decode cX4_edge 79 = .ok (.iload_n 3, 1) := by decide +kernel
theorem dX4_edge_80 : decode cX4_edge 80 = .ok (.iload 4, 2) := by decide +kernel
theorem dX4_edge_82 : decode cX4_edge 82 = .ok (.imul, 1) := by decide +kernel
theorem dX4_edge_83 : decode cX4_edge 83 = .ok (.goto 4, 3) := by decide +kernel
theorem dX4_edge_86 : decode cX4_edge 86 = .ok (.iconst 0, 1) := by decide +kernel
theorem dX4_edge_87 : decode cX4_edge 87 = .ok (.iadd, 1) := by decide +kernel
theorem dX4_edge_88 : decode cX4_edge 88 = .ok (.istore 6, 2) := by decide +kernel
theorem dX4_edge_90 : decode cX4_edge 90 = .ok (.iload 5, 2) := by decide +kernel
theorem dX4_edge_92 : decode cX4_edge 92 = .ok (.iload 6, 2) := by decide +kernel
theorem dX4_edge_94 : decode cX4_edge 94 = .ok (.invokestatic 108, 3) := by decide +kernel
theorem dX4_edge_97 : decode cX4_edge 97 = .ok (.ifCond .eq 25, 3) := by decide +kernel
theorem dX4_edge_100 : decode cX4_edge 100 = .ok (.aload_n 0, 1) := by decide +kernel
theorem dX4_edge_101 : decode cX4_edge 101 = .ok (.getfield 10, 3) := by decide +kernel
theorem dX4_edge_104 : decode cX4_edge 104 = .ok (.iload 5, 2) := by decide +kernel
theorem dX4_edge_106 : decode cX4_edge 106 = .ok (.iload 6, 2) := by decide +kernel
theorem dX4_edge_108 : decode cX4_edge 108 = .ok (.invokevirtual 112, 3) := by decide +kernel
theorem dX4_edge_111 : decode cX4_edge 111 = .ok (.iconst 0, 1) := by decide +kernel
theorem dX4_edge_112 : decode cX4_edge 112 = .ok (.iconst 0, 1) := by decide +kernel
theorem dX4_edge_113 : decode cX4_edge 113 = .ok (.invokestatic 127, 3) := by decide +kernel
theorem dX4_edge_116 : decode cX4_edge 116 = .ok (.if_icmp .eq 6, 3) := by decide +kernel
theorem dX4_edge_119 : decode cX4_edge 119 = .ok (.iload 4, 2) := by decide +kernel
theorem dX4_edge_121 : decode cX4_edge 121 = .ok (.ireturn, 1) := by decide +kernel
theorem dX4_edge_122 : decode cX4_edge 122 = .ok (.iinc 4 1, 3) := by decide +kernel
theorem dX4_edge_125 : decode cX4_edge 125 = .ok (.goto (-88), 3) := by decide +kernel
theorem dX4_edge_128 : decode cX4_edge 128 = .ok (.bipush (-6), 2) := by decide +kernel
theorem dX4_edge_130 : decode cX4_edge 130 = .ok (.ireturn, 1) := by decide +kernel
theorem dX4_driftsIn_0 : decode cX4_driftsIn 0 = .ok (.iload_n 1, 1) := by decide +kernel
theorem dX4_driftsIn_1 : decode cX4_driftsIn 1 = .ok (.iload_n 2, 1) := by decide +kernel
theorem dX4_driftsIn_2 : decode cX4_driftsIn 2 = .ok (.invokestatic 108, 3) := by decide +kernel
theorem dX4_driftsIn_5 : decode cX4_driftsIn 5 = .ok (.ifCond .ne 6, 3) := by decide +kernel
theorem dX4_driftsIn_8 : decode cX4_driftsIn 8 = .ok (.bipush (-2), 2) := by decide +kernel
theorem dX4_driftsIn_10 : decode cX4_driftsIn 10 = .ok (.ireturn, 1) := by decide +kernel
theorem dX4_driftsIn_11 : decode cX4_driftsIn 11 = .ok (.aload_n 0, 1) := by decide +kernel
theorem dX4_driftsIn_12 : decode cX4_driftsIn 12 = .ok (.getfield 16, 3) := by decide +kernel
theorem dX4_driftsIn_15 : decode cX4_driftsIn 15 = .ok (.aload_n 0, 1) := by decide +kernel
theorem dX4_driftsIn_16 : decode cX4_driftsIn 16 = .ok (.getfield 10, 3) := by decide +kernel
theorem dX4_driftsIn_19 : decode cX4_driftsIn 19 = .ok (.invokevirtual 115, 3) := by decide +kernel
theorem dX4_driftsIn_22 : decode cX4_driftsIn 22 = .ok (.iconst 1, 1) := by decide +kernel
theorem dX4_driftsIn_23 : decode cX4_driftsIn 23 = .ok (.istore_n 3, 1) := by decide +kernel
theorem dX4_driftsIn_24 : decode cX4_driftsIn 24 = .ok (.iload_n 3, 1) := by decide +kernel
theorem dX4_driftsIn_25 : decode cX4_driftsIn 25 = .ok (.sipush 200, 3) := by decide +kernel
theorem dX4_driftsIn_28 : decode cX4_driftsIn 28 = .ok (.if_icmp .gt 32, 3) := by decide +kernel
theorem dX4_driftsIn_31 : decode cX4_driftsIn 31 = .ok (.aload_n 0, 1) := by decide +kernel
theorem dX4_driftsIn_32 : decode cX4_driftsIn 32 = .ok (.getfield 16, 3) := by decide +kernel
theorem dX4_driftsIn_35 : decode cX4_driftsIn 35 = .ok (.iload_n 1, 1) := by decide +kernel
theorem dX4_driftsIn_36 : decode cX4_driftsIn 36 = .ok (.iload_n 2, 1) := by decide +kernel
theorem dX4_driftsIn_37 : decode cX4_driftsIn 37 = .ok (.invokevirtual 130, 3) := by decide +kernel
theorem dX4_driftsIn_40 : decode cX4_driftsIn 40 = .ok (.ifCond .eq 5, 3) := by decide +kernel
theorem dX4_driftsIn_43 : decode cX4_driftsIn 43 = .ok (.iload_n 3, 1) := by decide +kernel
theorem dX4_driftsIn_44 : decode cX4_driftsIn 44 = .ok (.ireturn, 1) := by decide +kernel
theorem dX4_driftsIn_45 : decode cX4_driftsIn 45 = .ok (.aload_n 0, 1) := by decide +kernel
theorem dX4_driftsIn_46 : decode cX4_driftsIn 46 = .ok (.getfield 16, 3) := by decide +kernel
theorem dX4_driftsIn_49 : decode cX4_driftsIn 49 = .ok (.iload_n 1, 1) := by decide +kernel
theorem dX4_driftsIn_50 : decode cX4_driftsIn 50 = .ok (.iload_n 2, 1) := by decide +kernel
theorem dX4_driftsIn_51 : decode cX4_driftsIn 51 = .ok (.invokevirtual 59, 3) := by decide +kernel
theorem dX4_driftsIn_54 : decode cX4_driftsIn 54 = .ok (.iinc 3 1, 3) := by decide +kernel
theorem dX4_driftsIn_57 : decode cX4_driftsIn 57 = .ok (.goto (-33), 3) := by decide +kernel
theorem dX4_driftsIn_60 : decode cX4_driftsIn 60 = .ok (.bipush (-6), 2) := by decide +kernel
theorem dX4_driftsIn_62 : decode cX4_driftsIn 62 = .ok (.ireturn, 1) := by decide +kernel
theorem dX4_undo_0 : decode cX4_undo 0 = .ok (.aload_n 0, 1) := by decide +kernel
theorem dX4_undo_1 : decode cX4_undo 1 = .ok (.getfield 29, 3) := by decide +kernel
theorem dX4_undo_4 : decode cX4_undo 4 = .ok (.aload_n 0, 1) := by decide +kernel
theorem dX4_undo_5 : decode cX4_undo 5 = .ok (.getfield 10, 3) := by decide +kernel
theorem dX4_undo_8 : decode cX4_undo 8 = .ok (.invokevirtual 176, 3) := by decide +kernel
theorem dX4_undo_11 : decode cX4_undo 11 = .ok (.ireturn, 1) := by decide +kernel
theorem dX4_save_0 : decode cX4_save 0 = .ok (.iload_n 1, 1) := by decide +kernel
theorem dX4_save_1 : decode cX4_save 1 = .ok (.ifCond .lt 12, 3) := by decide +kernel
theorem dX4_save_4 : decode cX4_save 4 = .ok (.iload_n 1, 1) := by decide +kernel
theorem dX4_save_5 : decode cX4_save 5 = .ok (.aload_n 0, 1) := by decide +kernel
theorem dX4_save_6 : decode cX4_save 6 = .ok (.getfield 33, 3) := by decide +kernel
theorem dX4_save_9 : decode cX4_save 9 = .ok (.arraylength, 1) := by decide +kernel
theorem dX4_save_10 : decode cX4_save 10 = .ok (.if_icmp .lt 6, 3) := by decide +kernel
theorem dX4_save_13 : decode cX4_save 13 = .ok (.bipush (-2), 2) := by decide +kernel
theorem dX4_save_15 : decode cX4_save 15 = .ok (.ireturn, 1) := by decide +kernel
theorem dX4_save_16 : decode cX4_save 16 = .ok (.aload_n 0, 1) := by decide +kernel
theorem dX4_save_17 : decode cX4_save 17 = .ok (.getfield 33, 3) := by decide +kernel
theorem dX4_save_20 : decode cX4_save 20 = .ok (.iload_n 1, 1) := by decide +kernel
theorem dX4_save_21 : decode cX4_save 21 = .ok (.aaload, 1) := by decide +kernel
theorem dX4_save_22 : decode cX4_save 22 = .ok (.astore_n 2, 1) := by decide +kernel
theorem dX4_save_23 : decode cX4_save 23 = .ok (.aload_n 2, 1) := by decide +kernel
theorem dX4_save_24 : decode cX4_save 24 = .ok (.ifnonnull 18, 3) := by decide +kernel
theorem dX4_save_27 : decode cX4_save 27 = .ok (.new 7, 3) := by decide +kernel
theorem dX4_save_30 : decode cX4_save 30 = .ok (.dup, 1) := by decide +kernel
theorem dX4_save_31 : decode cX4_save 31 = .ok (.invokespecial 9, 3) := by decide +kernel
theorem dX4_save_34 : decode cX4_save 34 = .ok (.astore_n 2, 1) := by decide +kernel
theorem dX4_save_35 : decode cX4_save 35 = .ok (.aload_n 0, 1) := by decide +kernel
theorem dX4_save_36 : decode cX4_save 36 = .ok (.getfield 33, 3) := by decide +kernel
theorem dX4_save_39 : decode cX4_save 39 = .ok (.iload_n 1, 1) := by decide +kernel
theorem dX4_save_40 : decode cX4_save 40 = .ok (.aload_n 2, 1) := by decide +kernel
theorem dX4_save_41 : decode cX4_save 41 = .ok (.aastore, 1) := by decide +kernel
theorem dX4_save_42 : decode cX4_save 42 = .ok (.aload_n 2, 1) := by decide +kernel
theorem dX4_save_43 : decode cX4_save 43 = .ok (.aload_n 0, 1) := by decide +kernel
theorem dX4_save_44 : decode cX4_save 44 = .ok (.getfield 10, 3) := by decide +kernel
theorem dX4_save_47 : decode cX4_save 47 = .ok (.invokevirtual 115, 3) := by decide +kernel
theorem dX4_save_50 : decode cX4_save 50 = .ok (.aload_n 0, 1) := by decide +kernel
theorem dX4_save_51 : decode cX4_save 51 = .ok (.getfield 10, 3) := by decide +kernel
theorem dX4_save_54 : decode cX4_save 54 = .ok (.getfield 180, 3) := by decide +kernel
theorem dX4_save_57 : decode cX4_save 57 = .ok (.ireturn, 1) := by decide +kernel
theorem dX4_restore_0 : decode cX4_restore 0 = .ok (.iload_n 1, 1) := by decide +kernel
theorem dX4_restore_1 : decode cX4_restore 1 = .ok (.ifCond .lt 12, 3) := by decide +kernel
theorem dX4_restore_4 : decode cX4_restore 4 = .ok (.iload_n 1, 1) := by decide +kernel
theorem dX4_restore_5 : decode cX4_restore 5 = .ok (.aload_n 0, 1) := by decide +kernel
theorem dX4_restore_6 : decode cX4_restore 6 = .ok (.getfield 33, 3) := by decide +kernel
theorem dX4_restore_9 : decode cX4_restore 9 = .ok (.arraylength, 1) := by decide +kernel
theorem dX4_restore_10 : decode cX4_restore 10 = .ok (.if_icmp .lt 6, 3) := by decide +kernel
theorem dX4_restore_13 : decode cX4_restore 13 = .ok (.bipush (-2), 2) := by decide +kernel
theorem dX4_restore_15 : decode cX4_restore 15 = .ok (.ireturn, 1) := by decide +kernel
theorem dX4_restore_16 : decode cX4_restore 16 = .ok (.aload_n 0, 1) := by decide +kernel
theorem dX4_restore_17 : decode cX4_restore 17 = .ok (.getfield 33, 3) := by decide +kernel
theorem dX4_restore_20 : decode cX4_restore 20 = .ok (.iload_n 1, 1) := by decide +kernel
theorem dX4_restore_21 : decode cX4_restore 21 = .ok (.aaload, 1) := by decide +kernel
theorem dX4_restore_22 : decode cX4_restore 22 = .ok (.astore_n 2, 1) := by decide +kernel
theorem dX4_restore_23 : decode cX4_restore 23 = .ok (.aload_n 2, 1) := by decide +kernel
theorem dX4_restore_24 : decode cX4_restore 24 = .ok (.ifnonnull 6, 3) := by decide +kernel
theorem dX4_restore_27 : decode cX4_restore 27 = .ok (.bipush (-5), 2) := by decide +kernel
theorem dX4_restore_29 : decode cX4_restore 29 = .ok (.ireturn, 1) := by decide +kernel
theorem dX4_restore_30 : decode cX4_restore 30 = .ok (.aload_n 0, 1) := by decide +kernel
theorem dX4_restore_31 : decode cX4_restore 31 = .ok (.getfield 29, 3) := by decide +kernel
theorem dX4_restore_34 : decode cX4_restore 34 = .ok (.aload_n 0, 1) := by decide +kernel
theorem dX4_restore_35 : decode cX4_restore 35 = .ok (.getfield 10, 3) := by decide +kernel
theorem dX4_restore_38 : decode cX4_restore 38 = .ok (.invokevirtual 44, 3) := by decide +kernel
theorem dX4_restore_41 : decode cX4_restore 41 = .ok (.aload_n 0, 1) := by decide +kernel
theorem dX4_restore_42 : decode cX4_restore 42 = .ok (.getfield 10, 3) := by decide +kernel
theorem dX4_restore_45 : decode cX4_restore 45 = .ok (.aload_n 2, 1) := by decide +kernel
theorem dX4_restore_46 : decode cX4_restore 46 = .ok (.invokevirtual 115, 3) := by decide +kernel
theorem dX4_restore_49 : decode cX4_restore 49 = .ok (.aload_n 0, 1) := by decide +kernel
theorem dX4_restore_50 : decode cX4_restore 50 = .ok (.getfield 10, 3) := by decide +kernel
theorem dX4_restore_53 : decode cX4_restore 53 = .ok (.getfield 180, 3) := by decide +kernel
theorem dX4_restore_56 : decode cX4_restore 56 = .ok (.ireturn, 1) := by decide +kernel
theorem dX4_isSample_0 : decode cX4_isSample 0 = .ok (.iload_n 0, 1) := by decide +kernel
theorem dX4_isSample_1 : decode cX4_isSample 1 = .ok (.ifCond .lt 25, 3) := by decide +kernel
theorem dX4_isSample_4 : decode cX4_isSample 4 = .ok (.iload_n 0, 1) := by decide +kernel
theorem dX4_isSample_5 : decode cX4_isSample 5 = .ok (.sipush 255, 3) := by decide +kernel
theorem dX4_isSample_8 : decode cX4_isSample 8 = .ok (.if_icmp .gt 18, 3) := by decide +kernel
theorem dX4_isSample_11 : decode cX4_isSample 11 = .ok (.iload_n 1, 1) := by decide +kernel
theorem dX4_isSample_12 : decode cX4_isSample 12 = .ok (.ifCond .lt 14, 3) := by decide +kernel
theorem dX4_isSample_15 : decode cX4_isSample 15 = .ok (.iload_n 1, 1) := by decide +kernel
theorem dX4_isSample_16 : decode cX4_isSample 16 = .ok (.sipush 255, 3) := by decide +kernel
theorem dX4_isSample_19 : decode cX4_isSample 19 = .ok (.if_icmp .gt 7, 3) := by decide +kernel
theorem dX4_isSample_22 : decode cX4_isSample 22 = .ok (.iconst 1, 1) := by decide +kernel
theorem dX4_isSample_23 : decode cX4_isSample 23 = .ok (.goto 4, 3) := by decide +kernel
theorem dX4_isSample_26 : decode cX4_isSample 26 = .ok (.iconst 0, 1) := by decide +kernel
theorem dX4_isSample_27 : decode cX4_isSample 27 = .ok (.ireturn, 1) := by decide +kernel
theorem dX4_packed_0 : decode cX4_packed 0 = .ok (.sipush 1000, 3) := by decide +kernel
theorem dX4_packed_3 : decode cX4_packed 3 = .ok (.iload_n 0, 1) := by decide +kernel
theorem dX4_packed_4 : decode cX4_packed 4 = .ok (.bipush 100, 2) := by decide +kernel
theorem dX4_packed_6 : decode cX4_packed 6 = .ok (.iadd, 1) := by decide +kernel
theorem dX4_packed_7 : decode cX4_packed 7 = .ok (.imul, 1) := by decide +kernel
theorem dX4_packed_8 : decode cX4_packed 8 = .ok (.iload_n 1, 1) := by decide +kernel
theorem dX4_packed_9 : decode cX4_packed 9 = .ok (.iadd, 1) := by decide +kernel
theorem dX4_packed_10 : decode cX4_packed 10 = .ok (.bipush 100, 2) := by decide +kernel
theorem dX4_packed_12 : decode cX4_packed 12 = .ok (.iadd, 1) := by decide +kernel
theorem dX4_packed_13 : decode cX4_packed 13 = .ok (.ireturn, 1) := by decide +kernel
theorem dX4_quotient_0 : decode cX4_quotient 0 = .ok (.iload_n 1, 1) := by decide +kernel
theorem dX4_quotient_1 : decode cX4_quotient 1 = .ok (.ifCond .ne 7, 3) := by decide +kernel
theorem dX4_quotient_4 : decode cX4_quotient 4 = .ok (.iconst 0, 1) := by decide +kernel
theorem dX4_quotient_5 : decode cX4_quotient 5 = .ok (.goto 6, 3) := by decide +kernel
theorem dX4_quotient_8 : decode cX4_quotient 8 = .ok (.iload_n 0, 1) := by decide +kernel
theorem dX4_quotient_9 : decode cX4_quotient 9 = .ok (.iload_n 1, 1) := by decide +kernel
theorem dX4_quotient_10 : decode cX4_quotient 10 = .ok (.idiv, 1) := by decide +kernel
theorem dX4_quotient_11 : decode cX4_quotient 11 = .ok (.ireturn, 1) := by decide +kernel
theorem dL_cell_0 : decode cL_cell 0 = .ok (.iload_n 1, 1) := by decide +kernel
theorem dL_cell_1 : decode cL_cell 1 = .ok (.aload_n 0, 1) := by decide +kernel
theorem dL_cell_2 : decode cL_cell 2 = .ok (.arraylength, 1) := by decide +kernel
theorem dL_cell_3 : decode cL_cell 3 = .ok (.if_icmp .ge 9, 3) := by decide +kernel
theorem dL_cell_6 : decode cL_cell 6 = .ok (.aload_n 0, 1) := by decide +kernel
theorem dL_cell_7 : decode cL_cell 7 = .ok (.iload_n 1, 1) := by decide +kernel
theorem dL_cell_8 : decode cL_cell 8 = .ok (.iaload, 1) := by decide +kernel
theorem dL_cell_9 : decode cL_cell 9 = .ok (.goto 15, 3) := by decide +kernel
theorem dL_cell_12 : decode cL_cell 12 = .ok (.sipush 7919, 3) := by decide +kernel
theorem dL_cell_15 : decode cL_cell 15 = .ok (.iload_n 1, 1) := by decide +kernel
theorem dL_cell_16 : decode cL_cell 16 = .ok (.iconst 3, 1) := by decide +kernel
theorem dL_cell_17 : decode cL_cell 17 = .ok (.iadd, 1) := by decide +kernel
theorem dL_cell_18 : decode cL_cell 18 = .ok (.imul, 1) := by decide +kernel
theorem dL_cell_19 : decode cL_cell 19 = .ok (.iload_n 1, 1) := by decide +kernel
theorem dL_cell_20 : decode cL_cell 20 = .ok (.bipush 11, 2) := by decide +kernel
theorem dL_cell_22 : decode cL_cell 22 = .ok (.iadd, 1) := by decide +kernel
theorem dL_cell_23 : decode cL_cell 23 = .ok (.imul, 1) := by decide +kernel
theorem dL_cell_24 : decode cL_cell 24 = .ok (.ireturn, 1) := by decide +kernel
theorem dL_low_0 : decode cL_low 0 = .ok (.iload_n 0, 1) := by decide +kernel
theorem dL_low_1 : decode cL_low 1 = .ok (.ldc 7, 2) := by decide +kernel
theorem dL_low_3 : decode cL_low 3 = .ok (.iand, 1) := by decide +kernel
theorem dL_low_4 : decode cL_low 4 = .ok (.iload_n 1, 1) := by decide +kernel
theorem dL_low_5 : decode cL_low 5 = .ok (.irem, 1) := by decide +kernel
theorem dL_low_6 : decode cL_low 6 = .ok (.ireturn, 1) := by decide +kernel
theorem dL_size_0 : decode cL_size 0 = .ok (.iload_n 0, 1) := by decide +kernel
theorem dL_size_1 : decode cL_size 1 = .ok (.ifCond .ge 8, 3) := by decide +kernel
theorem dL_size_4 : decode cL_size 4 = .ok (.iload_n 0, 1) := by decide +kernel
theorem dL_size_5 : decode cL_size 5 = .ok (.ineg, 1) := by decide +kernel
theorem dL_size_6 : decode cL_size 6 = .ok (.goto 4, 3) := by decide +kernel
theorem dL_size_9 : decode cL_size 9 = .ok (.iload_n 0, 1) := by decide +kernel
theorem dL_size_10 : decode cL_size 10 = .ok (.ireturn, 1) := by decide +kernel
theorem dL_greater_0 : decode cL_greater 0 = .ok (.iload_n 0, 1) := by decide +kernel
theorem dL_greater_1 : decode cL_greater 1 = .ok (.iload_n 1, 1) := by decide +kernel
theorem dL_greater_2 : decode cL_greater 2 = .ok (.if_icmp .le 7, 3) := by decide +kernel
theorem dL_greater_5 : decode cL_greater 5 = .ok (.iload_n 0, 1) := by decide +kernel
theorem dL_greater_6 : decode cL_greater 6 = .ok (.goto 4, 3) := by decide +kernel
theorem dL_greater_9 : decode cL_greater 9 = .ok (.iload_n 1, 1) := by decide +kernel
theorem dL_greater_10 : decode cL_greater 10 = .ok (.ireturn, 1) := by decide +kernel
theorem dL_isStick_0 : decode cL_isStick 0 = .ok (.aload_n 0, 1) := by decide +kernel
theorem dL_isStick_1 : decode cL_isStick 1 = .ok (.iconst 1, 1) := by decide +kernel
theorem dL_isStick_2 : decode cL_isStick 2 = .ok (.invokevirtual 8, 3) := by decide +kernel
theorem dL_isStick_5 : decode cL_isStick 5 = .ok (.istore_n 1, 1) := by decide +kernel
theorem dL_isStick_6 : decode cL_isStick 6 = .ok (.aload_n 0, 1) := by decide +kernel
theorem dL_isStick_7 : decode cL_isStick 7 = .ok (.iconst 0, 1) := by decide +kernel
theorem dL_isStick_8 : decode cL_isStick 8 = .ok (.iconst 1, 1) := by decide +kernel
theorem dL_isStick_9 : decode cL_isStick 9 = .ok (.invokevirtual 14, 3) := by decide +kernel
theorem dL_isStick_12 : decode cL_isStick 12 = .ok (.bipush 100, 2) := by decide +kernel
theorem dL_isStick_14 : decode cL_isStick 14 = .ok (.isub, 1) := by decide +kernel
theorem dL_isStick_15 : decode cL_isStick 15 = .ok (.istore_n 2, 1) := by decide +kernel
theorem dL_isStick_16 : decode cL_isStick 16 = .ok (.aload_n 0, 1) := by decide +kernel
theorem dL_isStick_17 : decode cL_isStick 17 = .ok (.iconst 1, 1) := by decide +kernel
theorem dL_isStick_18 : decode cL_isStick 18 = .ok (.iconst 1, 1) := by decide +kernel
theorem dL_isStick_19 : decode cL_isStick 19 = .ok (.invokevirtual 14, 3) := by decide +kernel
theorem dL_isStick_22 : decode cL_isStick 22 = .ok (.bipush 100, 2) := by decide +kernel
theorem dL_isStick_24 : decode cL_isStick 24 = .ok (.isub, 1) := by decide +kernel
theorem dL_isStick_25 : decode cL_isStick 25 = .ok (.istore_n 3, 1) := by decide +kernel
theorem dL_isStick_26 : decode cL_isStick 26 = .ok (.iload_n 1, 1) := by decide +kernel
theorem dL_isStick_27 : decode cL_isStick 27 = .ok (.aload_n 0, 1) := by decide +kernel
theorem dL_isStick_28 : decode cL_isStick 28 = .ok (.bipush 11, 2) := by decide +kernel
theorem dL_isStick_30 : decode cL_isStick 30 = .ok (.invokevirtual 8, 3) := by decide +kernel
theorem dL_isStick_33 : decode cL_isStick 33 = .ok (.if_icmp .lt 78, 3) := by decide +kernel
theorem dL_isStick_36 : decode cL_isStick 36 = .ok (.iload_n 1, 1) := by decide +kernel
theorem dL_isStick_37 : decode cL_isStick 37 = .ok (.aload_n 0, 1) := by decide +kernel
theorem dL_isStick_38 : decode cL_isStick 38 = .ok (.bipush 11, 2) := by decide +kernel
theorem dL_isStick_40 : decode cL_isStick 40 = .ok (.invokevirtual 8, 3) := by decide +kernel
theorem dL_isStick_43 : decode cL_isStick 43 = .ok (.aload_n 0, 1) := by decide +kernel
theorem dL_isStick_44 : decode cL_isStick 44 = .ok (.bipush 12, 2) := by decide +kernel
theorem dL_isStick_46 : decode cL_isStick 46 = .ok (.invokevirtual 8, 3) := by decide +kernel
theorem dL_isStick_49 : decode cL_isStick 49 = .ok (.iadd, 1) := by decide +kernel
theorem dL_isStick_50 : decode cL_isStick 50 = .ok (.if_icmp .gt 61, 3) := by decide +kernel
theorem dL_isStick_53 : decode cL_isStick 53 = .ok (.iload_n 2, 1) := by decide +kernel
theorem dL_isStick_54 : decode cL_isStick 54 = .ok (.invokestatic 18, 3) := by decide +kernel
theorem dL_isStick_57 : decode cL_isStick 57 = .ok (.bipush 100, 2) := by decide +kernel
theorem dL_isStick_59 : decode cL_isStick 59 = .ok (.if_icmp .gt 52, 3) := by decide +kernel
theorem dL_isStick_62 : decode cL_isStick 62 = .ok (.iload_n 3, 1) := by decide +kernel
theorem dL_isStick_63 : decode cL_isStick 63 = .ok (.invokestatic 18, 3) := by decide +kernel
theorem dL_isStick_66 : decode cL_isStick 66 = .ok (.bipush 100, 2) := by decide +kernel
theorem dL_isStick_68 : decode cL_isStick 68 = .ok (.if_icmp .gt 43, 3) := by decide +kernel
theorem dL_isStick_71 : decode cL_isStick 71 = .ok (.iload_n 2, 1) := by decide +kernel
theorem dL_isStick_72 : decode cL_isStick 72 = .ok (.invokestatic 18, 3) := by decide +kernel
theorem dL_isStick_75 : decode cL_isStick 75 = .ok (.iload_n 3, 1) := by decide +kernel
theorem dL_isStick_76 : decode cL_isStick 76 = .ok (.invokestatic 18, 3) := by decide +kernel
theorem dL_isStick_79 : decode cL_isStick 79 = .ok (.iadd, 1) := by decide +kernel
theorem dL_isStick_80 : decode cL_isStick 80 = .ok (.aload_n 0, 1) := by decide +kernel
theorem dL_isStick_81 : decode cL_isStick 81 = .ok (.bipush 14, 2) := by decide +kernel
theorem dL_isStick_83 : decode cL_isStick 83 = .ok (.invokevirtual 8, 3) := by decide +kernel
theorem dL_isStick_86 : decode cL_isStick 86 = .ok (.if_icmp .gt 25, 3) := by decide +kernel
theorem dL_isStick_89 : decode cL_isStick 89 = .ok (.aload_n 0, 1) := by decide +kernel
theorem dL_isStick_90 : decode cL_isStick 90 = .ok (.iconst 3, 1) := by decide +kernel
theorem dL_isStick_91 : decode cL_isStick 91 = .ok (.invokevirtual 8, 3) := by decide +kernel
theorem dL_isStick_94 : decode cL_isStick 94 = .ok (.ifCond .lt 17, 3) := by decide +kernel
theorem dL_isStick_97 : decode cL_isStick 97 = .ok (.aload_n 0, 1) := by decide +kernel
theorem dL_isStick_98 : decode cL_isStick 98 = .ok (.iconst 3, 1) := by decide +kernel
theorem dL_isStick_99 : decode cL_isStick 99 = .ok (.invokevirtual 8, 3) := by decide +kernel
theorem dL_isStick_102 : decode cL_isStick 102 = .ok (.bipush 20, 2) := by decide +kernel
theorem dL_isStick_104 : decode cL_isStick 104 = .ok (.if_icmp .gt 7, 3) := by decide +kernel
theorem dL_isStick_107 : decode cL_isStick 107 = .ok (.iconst 1, 1) := by decide +kernel
theorem dL_isStick_108 : decode cL_isStick 108 = .ok (.goto 4, 3) := by decide +kernel
theorem dL_isStick_111 : decode cL_isStick 111 = .ok (.iconst 0, 1) := by decide +kernel
theorem dL_isStick_112 : decode cL_isStick 112 = .ok (.istore 4, 2) := by decide +kernel
theorem dL_isStick_114 : decode cL_isStick 114 = .ok (.iconst 0, 1) := by decide +kernel
theorem dL_isStick_115 : decode cL_isStick 115 = .ok (.istore 5, 2) := by decide +kernel
theorem dL_isStick_117 : decode cL_isStick 117 = .ok (.iload 5, 2) := by decide +kernel
theorem dL_isStick_119 : decode cL_isStick 119 = .ok (.iconst 2, 1) := by decide +kernel
theorem dL_isStick_120 : decode cL_isStick 120 = .ok (.if_icmp .ge 117, 3) := by decide +kernel
theorem dL_isStick_123 : decode cL_isStick 123 = .ok (.aload_n 0, 1) := by decide +kernel
theorem dL_isStick_124 : decode cL_isStick 124 = .ok (.iload 5, 2) := by decide +kernel
theorem dL_isStick_126 : decode cL_isStick 126 = .ok (.iconst 0, 1) := by decide +kernel
theorem dL_isStick_127 : decode cL_isStick 127 = .ok (.invokevirtual 14, 3) := by decide +kernel
theorem dL_isStick_130 : decode cL_isStick 130 = .ok (.istore 6, 2) := by decide +kernel
theorem dL_isStick_132 : decode cL_isStick 132 = .ok (.aload_n 0, 1) := by decide +kernel
theorem dL_isStick_133 : decode cL_isStick 133 = .ok (.iload 5, 2) := by decide +kernel
theorem dL_isStick_135 : decode cL_isStick 135 = .ok (.iconst 2, 1) := by decide +kernel
theorem dL_isStick_136 : decode cL_isStick 136 = .ok (.invokevirtual 14, 3) := by decide +kernel
theorem dL_isStick_139 : decode cL_isStick 139 = .ok (.istore 7, 2) := by decide +kernel
theorem dL_isStick_141 : decode cL_isStick 141 = .ok (.iload 4, 2) := by decide +kernel
theorem dL_isStick_143 : decode cL_isStick 143 = .ok (.ifCond .eq 85, 3) := by decide +kernel
theorem dL_isStick_146 : decode cL_isStick 146 = .ok (.iload 6, 2) := by decide +kernel
theorem dL_isStick_148 : decode cL_isStick 148 = .ok (.ifCond .lt 80, 3) := by decide +kernel
theorem dL_isStick_151 : decode cL_isStick 151 = .ok (.iload 6, 2) := by decide +kernel
theorem dL_isStick_153 : decode cL_isStick 153 = .ok (.sipush 4080, 3) := by decide +kernel
theorem dL_isStick_156 : decode cL_isStick 156 = .ok (.if_icmp .gt 72, 3) := by decide +kernel
theorem dL_isStick_159 : decode cL_isStick 159 = .ok (.aload_n 0, 1) := by decide +kernel
theorem dL_isStick_160 : decode cL_isStick 160 = .ok (.iconst 0, 1) := by decide +kernel
theorem dL_isStick_161 : decode cL_isStick 161 = .ok (.invokevirtual 8, 3) := by decide +kernel
theorem dL_isStick_164 : decode cL_isStick 164 = .ok (.ifCond .ne 25, 3) := by decide +kernel
theorem dL_isStick_167 : decode cL_isStick 167 = .ok (.iload 7, 2) := by decide +kernel
theorem dL_isStick_169 : decode cL_isStick 169 = .ok (.bipush (-6), 2) := by decide +kernel
theorem dL_isStick_171 : decode cL_isStick 171 = .ok (.if_icmp .ne 57, 3) := by decide +kernel
theorem dL_isStick_174 : decode cL_isStick 174 = .ok (.aload_n 0, 1) := by decide +kernel
theorem dL_isStick_175 : decode cL_isStick 175 = .ok (.iload 5, 2) := by decide +kernel
theorem dL_isStick_177 : decode cL_isStick 177 = .ok (.iconst 3, 1) := by decide +kernel
theorem dL_isStick_178 : decode cL_isStick 178 = .ok (.invokevirtual 14, 3) := by decide +kernel
theorem dL_isStick_181 : decode cL_isStick 181 = .ok (.bipush (-6), 2) := by decide +kernel
theorem dL_isStick_183 : decode cL_isStick 183 = .ok (.if_icmp .ne 45, 3) := by decide +kernel
theorem dL_isStick_186 : decode cL_isStick 186 = .ok (.goto 38, 3) := by decide +kernel
theorem dL_isStick_189 : decode cL_isStick 189 = .ok (.iload 7, 2) := by decide +kernel
theorem dL_isStick_191 : decode cL_isStick 191 = .ok (.ifCond .lt 37, 3) := by decide +kernel
theorem dL_isStick_194 : decode cL_isStick 194 = .ok (.iload 7, 2) := by decide +kernel
theorem dL_isStick_196 : decode cL_isStick 196 = .ok (.sipush 256, 3) := by decide +kernel
theorem dL_isStick_199 : decode cL_isStick 199 = .ok (.if_icmp .ge 29, 3) := by decide +kernel
theorem dL_isStick_202 : decode cL_isStick 202 = .ok (.aload_n 0, 1) := by decide +kernel
theorem dL_isStick_203 : decode cL_isStick 203 = .ok (.iload 5, 2) := by decide +kernel
theorem dL_isStick_205 : decode cL_isStick 205 = .ok (.iconst 3, 1) := by decide +kernel
theorem dL_isStick_206 : decode cL_isStick 206 = .ok (.invokevirtual 14, 3) := by decide +kernel
theorem dL_isStick_209 : decode cL_isStick 209 = .ok (.iload 7, 2) := by decide +kernel
theorem dL_isStick_211 : decode cL_isStick 211 = .ok (.iload 6, 2) := by decide +kernel
theorem dL_isStick_213 : decode cL_isStick 213 = .ok (.bipush 16, 2) := by decide +kernel
theorem dL_isStick_215 : decode cL_isStick 215 = .ok (.idiv, 1) := by decide +kernel
theorem dL_isStick_216 : decode cL_isStick 216 = .ok (.isub, 1) := by decide +kernel
theorem dL_isStick_217 : decode cL_isStick 217 = .ok (.sipush 1000, 3) := by decide +kernel
theorem dL_isStick_220 : decode cL_isStick 220 = .ok (.iadd, 1) := by decide +kernel
theorem dL_isStick_221 : decode cL_isStick 221 = .ok (.if_icmp .ne 7, 3) := by decide +kernel
theorem dL_isStick_224 : decode cL_isStick 224 = .ok (.iconst 1, 1) := by decide +kernel
theorem dL_isStick_225 : decode cL_isStick 225 = .ok (.goto 4, 3) := by decide +kernel
theorem dL_isStick_228 : decode cL_isStick 228 = .ok (.iconst 0, 1) := by decide +kernel
theorem dL_isStick_229 : decode cL_isStick 229 = .ok (.istore 4, 2) := by decide +kernel
theorem dL_isStick_231 : decode cL_isStick 231 = .ok (.iinc 5 1, 3) := by decide +kernel
theorem dL_isStick_234 : decode cL_isStick 234 = .ok (.goto (-117), 3) := by decide +kernel
theorem dL_isStick_237 : decode cL_isStick 237 = .ok (.iconst 0, 1) := by decide +kernel
theorem dL_isStick_238 : decode cL_isStick 238 = .ok (.istore 5, 2) := by decide +kernel
theorem dL_isStick_240 : decode cL_isStick 240 = .ok (.iconst 0, 1) := by decide +kernel
theorem dL_isStick_241 : decode cL_isStick 241 = .ok (.istore 6, 2) := by decide +kernel
theorem dL_isStick_243 : decode cL_isStick 243 = .ok (.iconst 0, 1) := by decide +kernel
theorem dL_isStick_244 : decode cL_isStick 244 = .ok (.istore 7, 2) := by decide +kernel
theorem dL_isStick_246 : decode cL_isStick 246 = .ok (.iload 7, 2) := by decide +kernel
theorem dL_isStick_248 : decode cL_isStick 248 = .ok (.aload_n 0, 1) := by decide +kernel
theorem dL_isStick_249 : decode cL_isStick 249 = .ok (.bipush 8, 2) := by decide +kernel
theorem dL_isStick_251 : decode cL_isStick 251 = .ok (.invokevirtual 8, 3) := by decide +kernel
theorem dL_isStick_254 : decode cL_isStick 254 = .ok (.if_icmp .ge 152, 3) := by decide +kernel
theorem dL_isStick_257 : decode cL_isStick 257 = .ok (.iload 7, 2) := by decide +kernel
theorem dL_isStick_259 : decode cL_isStick 259 = .ok (.bipush 9, 2) := by decide +kernel
theorem dL_isStick_261 : decode cL_isStick 261 = .ok (.if_icmp .ge 145, 3) := by decide +kernel
theorem dL_isStick_264 : decode cL_isStick 264 = .ok (.aload_n 0, 1) := by decide +kernel
theorem dL_isStick_265 : decode cL_isStick 265 = .ok (.iload 7, 2) := by decide +kernel
theorem dL_isStick_267 : decode cL_isStick 267 = .ok (.iconst 2, 1) := by decide +kernel
theorem dL_isStick_268 : decode cL_isStick 268 = .ok (.invokevirtual 23, 3) := by decide +kernel
theorem dL_isStick_271 : decode cL_isStick 271 = .ok (.istore 8, 2) := by decide +kernel
theorem dL_isStick_273 : decode cL_isStick 273 = .ok (.aload_n 0, 1) := by decide +kernel
theorem dL_isStick_274 : decode cL_isStick 274 = .ok (.iload 7, 2) := by decide +kernel
theorem dL_isStick_276 : decode cL_isStick 276 = .ok (.iconst 3, 1) := by decide +kernel
theorem dL_isStick_277 : decode cL_isStick 277 = .ok (.invokevirtual 23, 3) := by decide +kernel
theorem dL_isStick_280 : decode cL_isStick 280 = .ok (.istore 9, 2) := by decide +kernel
theorem dL_isStick_282 : decode cL_isStick 282 = .ok (.aload_n 0, 1) := by decide +kernel
theorem dL_isStick_283 : decode cL_isStick 283 = .ok (.iload 7, 2) := by decide +kernel
theorem dL_isStick_285 : decode cL_isStick 285 = .ok (.iconst 0, 1) := by decide +kernel
theorem dL_isStick_286 : decode cL_isStick 286 = .ok (.invokevirtual 23, 3) := by decide +kernel
theorem dL_isStick_289 : decode cL_isStick 289 = .ok (.iconst 1, 1) := by decide +kernel
theorem dL_isStick_290 : decode cL_isStick 290 = .ok (.if_icmp .ne 18, 3) := by decide +kernel
theorem dL_isStick_293 : decode cL_isStick 293 = .ok (.aload_n 0, 1) := by decide +kernel
theorem dL_isStick_294 : decode cL_isStick 294 = .ok (.iload 7, 2) := by decide +kernel
theorem dL_isStick_296 : decode cL_isStick 296 = .ok (.iconst 1, 1) := by decide +kernel
theorem dL_isStick_297 : decode cL_isStick 297 = .ok (.invokevirtual 23, 3) := by decide +kernel
theorem dL_isStick_300 : decode cL_isStick 300 = .ok (.iconst 1, 1) := by decide +kernel
theorem dL_isStick_301 : decode cL_isStick 301 = .ok (.if_icmp .ne 7, 3) := by decide +kernel
theorem dL_isStick_304 : decode cL_isStick 304 = .ok (.iconst 1, 1) := by decide +kernel
theorem dL_isStick_305 : decode cL_isStick 305 = .ok (.goto 4, 3) := by decide +kernel
theorem dL_isStick_308 : decode cL_isStick 308 = .ok (.iconst 0, 1) := by decide +kernel
theorem dL_isStick_309 : decode cL_isStick 309 = .ok (.istore 10, 2) := by decide +kernel
theorem dL_isStick_311 : decode cL_isStick 311 = .ok (.iload 5, 2) := by decide +kernel
theorem dL_isStick_313 : decode cL_isStick 313 = .ok (.iload 8, 2) := by decide +kernel
theorem dL_isStick_315 : decode cL_isStick 315 = .ok (.iadd, 1) := by decide +kernel
theorem dL_isStick_316 : decode cL_isStick 316 = .ok (.istore 5, 2) := by decide +kernel
theorem dL_isStick_318 : decode cL_isStick 318 = .ok (.iload 6, 2) := by decide +kernel
theorem dL_isStick_320 : decode cL_isStick 320 = .ok (.iload 10, 2) := by decide +kernel
theorem dL_isStick_322 : decode cL_isStick 322 = .ok (.ifCond .eq 7, 3) := by decide +kernel
theorem dL_isStick_325 : decode cL_isStick 325 = .ok (.iconst 0, 1) := by decide +kernel
theorem dL_isStick_326 : decode cL_isStick 326 = .ok (.goto 5, 3) := by decide +kernel
theorem dL_isStick_329 : decode cL_isStick 329 = .ok (.iload 8, 2) := by decide +kernel
theorem dL_isStick_331 : decode cL_isStick 331 = .ok (.iadd, 1) := by decide +kernel
theorem dL_isStick_332 : decode cL_isStick 332 = .ok (.istore 6, 2) := by decide +kernel
theorem dL_isStick_334 : decode cL_isStick 334 = .ok (.iload 4, 2) := by decide +kernel
theorem dL_isStick_336 : decode cL_isStick 336 = .ok (.ifCond .eq 61, 3) := by decide +kernel
theorem dL_isStick_339 : decode cL_isStick 339 = .ok (.iload 9, 2) := by decide +kernel
theorem dL_isStick_341 : decode cL_isStick 341 = .ok (.ifCond .le 56, 3) := by decide +kernel
theorem dL_isStick_344 : decode cL_isStick 344 = .ok (.iload 9, 2) := by decide +kernel
theorem dL_isStick_346 : decode cL_isStick 346 = .ok (.iload 8, 2) := by decide +kernel
theorem dL_isStick_348 : decode cL_isStick 348 = .ok (.if_icmp .gt 49, 3) := by decide +kernel
theorem dL_isStick_351 : decode cL_isStick 351 = .ok (.aload_n 0, 1) := by decide +kernel
theorem dL_isStick_352 : decode cL_isStick 352 = .ok (.iload 7, 2) := by decide +kernel
theorem dL_isStick_354 : decode cL_isStick 354 = .ok (.iconst 0, 1) := by decide +kernel
theorem dL_isStick_355 : decode cL_isStick 355 = .ok (.invokevirtual 23, 3) := by decide +kernel
theorem dL_isStick_358 : decode cL_isStick 358 = .ok (.ifCond .lt 39, 3) := by decide +kernel
theorem dL_isStick_361 : decode cL_isStick 361 = .ok (.aload_n 0, 1) := by decide +kernel
theorem dL_isStick_362 : decode cL_isStick 362 = .ok (.iload 7, 2) := by decide +kernel
theorem dL_isStick_364 : decode cL_isStick 364 = .ok (.iconst 0, 1) := by decide +kernel
theorem dL_isStick_365 : decode cL_isStick 365 = .ok (.invokevirtual 23, 3) := by decide +kernel
theorem dL_isStick_368 : decode cL_isStick 368 = .ok (.iconst 3, 1) := by decide +kernel
theorem dL_isStick_369 : decode cL_isStick 369 = .ok (.if_icmp .ge 28, 3) := by decide +kernel
theorem dL_isStick_372 : decode cL_isStick 372 = .ok (.aload_n 0, 1) := by decide +kernel
theorem dL_isStick_373 : decode cL_isStick 373 = .ok (.iload 7, 2) := by decide +kernel
theorem dL_isStick_375 : decode cL_isStick 375 = .ok (.iconst 1, 1) := by decide +kernel
theorem dL_isStick_376 : decode cL_isStick 376 = .ok (.invokevirtual 23, 3) := by decide +kernel
theorem dL_isStick_379 : decode cL_isStick 379 = .ok (.ifCond .lt 18, 3) := by decide +kernel
theorem dL_isStick_382 : decode cL_isStick 382 = .ok (.aload_n 0, 1) := by decide +kernel
theorem dL_isStick_383 : decode cL_isStick 383 = .ok (.iload 7, 2) := by decide +kernel
theorem dL_isStick_385 : decode cL_isStick 385 = .ok (.iconst 1, 1) := by decide +kernel
theorem dL_isStick_386 : decode cL_isStick 386 = .ok (.invokevirtual 23, 3) := by decide +kernel
theorem dL_isStick_389 : decode cL_isStick 389 = .ok (.iconst 3, 1) := by decide +kernel
theorem dL_isStick_390 : decode cL_isStick 390 = .ok (.if_icmp .ge 7, 3) := by decide +kernel
theorem dL_isStick_393 : decode cL_isStick 393 = .ok (.iconst 1, 1) := by decide +kernel
theorem dL_isStick_394 : decode cL_isStick 394 = .ok (.goto 4, 3) := by decide +kernel
theorem dL_isStick_397 : decode cL_isStick 397 = .ok (.iconst 0, 1) := by decide +kernel
theorem dL_isStick_398 : decode cL_isStick 398 = .ok (.istore 4, 2) := by decide +kernel
theorem dL_isStick_400 : decode cL_isStick 400 = .ok (.iinc 7 1, 3) := by decide +kernel
theorem dL_isStick_403 : decode cL_isStick 403 = .ok (.goto (-157), 3) := by decide +kernel
theorem dL_isStick_406 : decode cL_isStick 406 = .ok (.iload 4, 2) := by decide +kernel
theorem dL_isStick_408 : decode cL_isStick 408 = .ok (.ifCond .eq 69, 3) := by decide +kernel
theorem dL_isStick_411 : decode cL_isStick 411 = .ok (.iload 5, 2) := by decide +kernel
theorem dL_isStick_413 : decode cL_isStick 413 = .ok (.aload_n 0, 1) := by decide +kernel
theorem dL_isStick_414 : decode cL_isStick 414 = .ok (.iconst 0, 1) := by decide +kernel
theorem dL_isStick_415 : decode cL_isStick 415 = .ok (.invokevirtual 8, 3) := by decide +kernel
theorem dL_isStick_418 : decode cL_isStick 418 = .ok (.if_icmp .ne 59, 3) := by decide +kernel
theorem dL_isStick_421 : decode cL_isStick 421 = .ok (.iload 6, 2) := by decide +kernel
theorem dL_isStick_423 : decode cL_isStick 423 = .ok (.aload_n 0, 1) := by decide +kernel
theorem dL_isStick_424 : decode cL_isStick 424 = .ok (.bipush 7, 2) := by decide +kernel
theorem dL_isStick_426 : decode cL_isStick 426 = .ok (.invokevirtual 8, 3) := by decide +kernel
theorem dL_isStick_429 : decode cL_isStick 429 = .ok (.if_icmp .ne 48, 3) := by decide +kernel
theorem dL_isStick_432 : decode cL_isStick 432 = .ok (.aload_n 0, 1) := by decide +kernel
theorem dL_isStick_433 : decode cL_isStick 433 = .ok (.aload_n 0, 1) := by decide +kernel
theorem dL_isStick_434 : decode cL_isStick 434 = .ok (.bipush 8, 2) := by decide +kernel
theorem dL_isStick_436 : decode cL_isStick 436 = .ok (.invokevirtual 8, 3) := by decide +kernel
theorem dL_isStick_439 : decode cL_isStick 439 = .ok (.iconst 0, 1) := by decide +kernel
theorem dL_isStick_440 : decode cL_isStick 440 = .ok (.invokevirtual 23, 3) := by decide +kernel
theorem dL_isStick_443 : decode cL_isStick 443 = .ok (.iconst (-1), 1) := by decide +kernel
theorem dL_isStick_444 : decode cL_isStick 444 = .ok (.if_icmp .ne 33, 3) := by decide +kernel
theorem dL_isStick_447 : decode cL_isStick 447 = .ok (.aload_n 0, 1) := by decide +kernel
theorem dL_isStick_448 : decode cL_isStick 448 = .ok (.iconst 4, 1) := by decide +kernel
theorem dL_isStick_449 : decode cL_isStick 449 = .ok (.invokevirtual 8, 3) := by decide +kernel
theorem dL_isStick_452 : decode cL_isStick 452 = .ok (.aload_n 0, 1) := by decide +kernel
theorem dL_isStick_453 : decode cL_isStick 453 = .ok (.iconst 5, 1) := by decide +kernel
theorem dL_isStick_454 : decode cL_isStick 454 = .ok (.invokevirtual 8, 3) := by decide +kernel
theorem dL_isStick_457 : decode cL_isStick 457 = .ok (.iadd, 1) := by decide +kernel
theorem dL_isStick_458 : decode cL_isStick 458 = .ok (.aload_n 0, 1) := by decide +kernel
theorem dL_isStick_459 : decode cL_isStick 459 = .ok (.bipush 7, 2) := by decide +kernel
theorem dL_isStick_461 : decode cL_isStick 461 = .ok (.invokevirtual 8, 3) := by decide +kernel
theorem dL_isStick_464 : decode cL_isStick 464 = .ok (.aload_n 0, 1) := by decide +kernel
theorem dL_isStick_465 : decode cL_isStick 465 = .ok (.iconst 5, 1) := by decide +kernel
theorem dL_isStick_466 : decode cL_isStick 466 = .ok (.invokevirtual 8, 3) := by decide +kernel
theorem dL_isStick_469 : decode cL_isStick 469 = .ok (.iadd, 1) := by decide +kernel
theorem dL_isStick_470 : decode cL_isStick 470 = .ok (.if_icmp .gt 7, 3) := by decide +kernel
theorem dL_isStick_473 : decode cL_isStick 473 = .ok (.iconst 1, 1) := by decide +kernel
theorem dL_isStick_474 : decode cL_isStick 474 = .ok (.goto 4, 3) := by decide +kernel
theorem dL_isStick_477 : decode cL_isStick 477 = .ok (.iconst 0, 1) := by decide +kernel
theorem dL_isStick_478 : decode cL_isStick 478 = .ok (.ireturn, 1) := by decide +kernel
theorem dL_isSample_0 : decode cL_isSample 0 = .ok (.aload_n 0, 1) := by decide +kernel
theorem dL_isSample_1 : decode cL_isSample 1 = .ok (.iconst 1, 1) := by decide +kernel
theorem dL_isSample_2 : decode cL_isSample 2 = .ok (.invokevirtual 8, 3) := by decide +kernel
theorem dL_isSample_5 : decode cL_isSample 5 = .ok (.istore_n 3, 1) := by decide +kernel
theorem dL_isSample_6 : decode cL_isSample 6 = .ok (.iload_n 1, 1) := by decide +kernel
theorem dL_isSample_7 : decode cL_isSample 7 = .ok (.aload_n 0, 1) := by decide +kernel
theorem dL_isSample_8 : decode cL_isSample 8 = .ok (.iconst 0, 1) := by decide +kernel
theorem dL_isSample_9 : decode cL_isSample 9 = .ok (.iconst 0, 1) := by decide +kernel
theorem dL_isSample_10 : decode cL_isSample 10 = .ok (.invokevirtual 14, 3) := by decide +kernel
theorem dL_isSample_13 : decode cL_isSample 13 = .ok (.bipush 16, 2) := by decide +kernel
theorem dL_isSample_15 : decode cL_isSample 15 = .ok (.idiv, 1) := by decide +kernel
theorem dL_isSample_16 : decode cL_isSample 16 = .ok (.isub, 1) := by decide +kernel
theorem dL_isSample_17 : decode cL_isSample 17 = .ok (.istore 4, 2) := by decide +kernel
theorem dL_isSample_19 : decode cL_isSample 19 = .ok (.iload_n 2, 1) := by decide +kernel
theorem dL_isSample_20 : decode cL_isSample 20 = .ok (.aload_n 0, 1) := by decide +kernel
theorem dL_isSample_21 : decode cL_isSample 21 = .ok (.iconst 1, 1) := by decide +kernel
theorem dL_isSample_22 : decode cL_isSample 22 = .ok (.iconst 0, 1) := by decide +kernel
theorem dL_isSample_23 : decode cL_isSample 23 = .ok (.invokevirtual 14, 3) := by decide +kernel
theorem dL_isSample_26 : decode cL_isSample 26 = .ok (.bipush 16, 2) := by decide +kernel
theorem dL_isSample_28 : decode cL_isSample 28 = .ok (.idiv, 1) := by decide +kernel
theorem dL_isSample_29 : decode cL_isSample 29 = .ok (.isub, 1) := by decide +kernel
theorem dL_isSample_30 : decode cL_isSample 30 = .ok (.istore 5, 2) := by decide +kernel
theorem dL_isSample_32 : decode cL_isSample 32 = .ok (.iload 4, 2) := by decide +kernel
theorem dL_isSample_34 : decode cL_isSample 34 = .ok (.invokestatic 18, 3) := by decide +kernel
theorem dL_isSample_37 : decode cL_isSample 37 = .ok (.iload 5, 2) := by decide +kernel
theorem dL_isSample_39 : decode cL_isSample 39 = .ok (.invokestatic 18, 3) := by decide +kernel
theorem dL_isSample_42 : decode cL_isSample 42 = .ok (.invokestatic 26, 3) := by decide +kernel
theorem dL_isSample_45 : decode cL_isSample 45 = .ok (.istore 6, 2) := by decide +kernel
theorem dL_isSample_47 : decode cL_isSample 47 = .ok (.aload_n 0, 1) := by decide +kernel
theorem dL_isSample_48 : decode cL_isSample 48 = .ok (.iconst 2, 1) := by decide +kernel
theorem dL_isSample_49 : decode cL_isSample 49 = .ok (.invokevirtual 8, 3) := by decide +kernel
theorem dL_isSample_52 : decode cL_isSample 52 = .ok (.istore 7, 2) := by decide +kernel
theorem dL_isSample_54 : decode cL_isSample 54 = .ok (.aload_n 0, 1) := by decide +kernel
theorem dL_isSample_55 : decode cL_isSample 55 = .ok (.iconst 3, 1) := by decide +kernel
theorem dL_isSample_56 : decode cL_isSample 56 = .ok (.invokevirtual 8, 3) := by decide +kernel
theorem dL_isSample_59 : decode cL_isSample 59 = .ok (.istore 8, 2) := by decide +kernel
theorem dL_isSample_61 : decode cL_isSample 61 = .ok (.aload_n 0, 1) := by decide +kernel
theorem dL_isSample_62 : decode cL_isSample 62 = .ok (.iconst 4, 1) := by decide +kernel
theorem dL_isSample_63 : decode cL_isSample 63 = .ok (.invokevirtual 8, 3) := by decide +kernel
theorem dL_isSample_66 : decode cL_isSample 66 = .ok (.istore 9, 2) := by decide +kernel
theorem dL_isSample_68 : decode cL_isSample 68 = .ok (.aload_n 0, 1) := by decide +kernel
theorem dL_isSample_69 : decode cL_isSample 69 = .ok (.iconst 5, 1) := by decide +kernel
theorem dL_isSample_70 : decode cL_isSample 70 = .ok (.invokevirtual 8, 3) := by decide +kernel
theorem dL_isSample_73 : decode cL_isSample 73 = .ok (.istore 10, 2) := by decide +kernel
theorem dL_isSample_75 : decode cL_isSample 75 = .ok (.aload_n 0, 1) := by decide +kernel
theorem dL_isSample_76 : decode cL_isSample 76 = .ok (.bipush 9, 2) := by decide +kernel
theorem dL_isSample_78 : decode cL_isSample 78 = .ok (.invokevirtual 8, 3) := by decide +kernel
theorem dL_isSample_81 : decode cL_isSample 81 = .ok (.istore 11, 2) := by decide +kernel
theorem dL_isSample_83 : decode cL_isSample 83 = .ok (.aload_n 0, 1) := by decide +kernel
theorem dL_isSample_84 : decode cL_isSample 84 = .ok (.iconst 0, 1) := by decide +kernel
theorem dL_isSample_85 : decode cL_isSample 85 = .ok (.iconst 0, 1) := by decide +kernel
theorem dL_isSample_86 : decode cL_isSample 86 = .ok (.invokevirtual 14, 3) := by decide +kernel
theorem dL_isSample_89 : decode cL_isSample 89 = .ok (.istore 12, 2) := by decide +kernel
theorem dL_isSample_91 : decode cL_isSample 91 = .ok (.aload_n 0, 1) := by decide +kernel
theorem dL_isSample_92 : decode cL_isSample 92 = .ok (.iconst 1, 1) := by decide +kernel
theorem dL_isSample_93 : decode cL_isSample 93 = .ok (.iconst 0, 1) := by decide +kernel
theorem dL_isSample_94 : decode cL_isSample 94 = .ok (.invokevirtual 14, 3) := by decide +kernel
theorem dL_isSample_97 : decode cL_isSample 97 = .ok (.istore 13, 2) := by decide +kernel
theorem dL_isSample_99 : decode cL_isSample 99 = .ok (.aload_n 0, 1) := by decide +kernel
theorem dL_isSample_100 : decode cL_isSample 100 = .ok (.iconst 0, 1) := by decide +kernel
theorem dL_isSample_101 : decode cL_isSample 101 = .ok (.iconst 1, 1) := by decide +kernel
theorem dL_isSample_102 : decode cL_isSample 102 = .ok (.invokevirtual 14, 3) := by decide +kernel
theorem dL_isSample_105 : decode cL_isSample 105 = .ok (.bipush 100, 2) := by decide +kernel
theorem dL_isSample_107 : decode cL_isSample 107 = .ok (.if_icmp .ne 14, 3) := by decide +kernel
theorem dL_isSample_110 : decode cL_isSample 110 = .ok (.aload_n 0, 1) := by decide +kernel
theorem dL_isSample_111 : decode cL_isSample 111 = .ok (.iconst 1, 1) := by decide +kernel
theorem dL_isSample_112 : decode cL_isSample 112 = .ok (.iconst 1, 1) := by decide +kernel
theorem dL_isSample_113 : decode cL_isSample 113 = .ok (.invokevirtual 14, 3) := by decide +kernel
theorem dL_isSample_116 : decode cL_isSample 116 = .ok (.bipush 100, 2) := by decide +kernel
theorem dL_isSample_118 : decode cL_isSample 118 = .ok (.if_icmp .eq 7, 3) := by decide +kernel
theorem dL_isSample_121 : decode cL_isSample 121 = .ok (.iconst 1, 1) := by decide +kernel
theorem dL_isSample_122 : decode cL_isSample 122 = .ok (.goto 4, 3) := by decide +kernel
theorem dL_isSample_125 : decode cL_isSample 125 = .ok (.iconst 0, 1) := by decide +kernel
theorem dL_isSample_126 : decode cL_isSample 126 = .ok (.istore 14, 2) := by decide +kernel
theorem dL_isSample_128 : decode cL_isSample 128 = .ok (.aload_n 0, 1) := by decide +kernel
theorem dL_isSample_129 : decode cL_isSample 129 = .ok (.iconst 0, 1) := by decide +kernel
theorem dL_isSample_130 : decode cL_isSample 130 = .ok (.invokevirtual 8, 3) := by decide +kernel
theorem dL_isSample_133 : decode cL_isSample 133 = .ok (.ifCond .le 37, 3) := by decide +kernel
theorem dL_isSample_136 : decode cL_isSample 136 = .ok (.iload_n 1, 1) := by decide +kernel
theorem dL_isSample_137 : decode cL_isSample 137 = .ok (.aload_n 0, 1) := by decide +kernel
theorem dL_isSample_138 : decode cL_isSample 138 = .ok (.iconst 0, 1) := by decide +kernel
theorem dL_isSample_139 : decode cL_isSample 139 = .ok (.iconst 2, 1) := by decide +kernel
theorem dL_isSample_140 : decode cL_isSample 140 = .ok (.invokevirtual 14, 3) := by decide +kernel
theorem dL_isSample_143 : decode cL_isSample 143 = .ok (.isub, 1) := by decide +kernel
theorem dL_isSample_144 : decode cL_isSample 144 = .ok (.invokestatic 18, 3) := by decide +kernel
theorem dL_isSample_147 : decode cL_isSample 147 = .ok (.iconst 2, 1) := by decide +kernel
theorem dL_isSample_148 : decode cL_isSample 148 = .ok (.if_icmp .ge 22, 3) := by decide +kernel
theorem dL_isSample_151 : decode cL_isSample 151 = .ok (.iload_n 2, 1) := by decide +kernel
theorem dL_isSample_152 : decode cL_isSample 152 = .ok (.aload_n 0, 1) := by decide +kernel
theorem dL_isSample_153 : decode cL_isSample 153 = .ok (.iconst 1, 1) := by decide +kernel
theorem dL_isSample_154 : decode cL_isSample 154 = .ok (.iconst 2, 1) := by decide +kernel
theorem dL_isSample_155 : decode cL_isSample 155 = .ok (.invokevirtual 14, 3) := by decide +kernel
theorem dL_isSample_158 : decode cL_isSample 158 = .ok (.isub, 1) := by decide +kernel
theorem dL_isSample_159 : decode cL_isSample 159 = .ok (.invokestatic 18, 3) := by decide +kernel
theorem dL_isSample_162 : decode cL_isSample 162 = .ok (.iconst 2, 1) := by decide +kernel
theorem dL_isSample_163 : decode cL_isSample 163 = .ok (.if_icmp .ge 7, 3) := by decide +kernel
theorem dL_isSample_166 : decode cL_isSample 166 = .ok (.iconst 1, 1) := by decide +kernel
theorem dL_isSample_167 : decode cL_isSample 167 = .ok (.goto 4, 3) := by decide +kernel
theorem dL_isSample_170 : decode cL_isSample 170 = .ok (.iconst 0, 1) := by decide +kernel
theorem dL_isSample_171 : decode cL_isSample 171 = .ok (.istore 15, 2) := by decide +kernel
theorem dL_isSample_173 : decode cL_isSample 173 = .ok (.aload_n 0, 1) := by decide +kernel
theorem dL_isSample_174 : decode cL_isSample 174 = .ok (.iload_n 1, 1) := by decide +kernel
theorem dL_isSample_175 : decode cL_isSample 175 = .ok (.iload_n 2, 1) := by decide +kernel
theorem dL_isSample_176 : decode cL_isSample 176 = .ok (.invokevirtual 29, 3) := by decide +kernel
theorem dL_isSample_179 : decode cL_isSample 179 = .ok (.istore 16, 2) := by decide +kernel
theorem dL_isSample_181 : decode cL_isSample 181 = .ok (.aload_n 0, 1) := by decide +kernel
theorem dL_isSample_182 : decode cL_isSample 182 = .ok (.iconst 0, 1) := by decide +kernel
theorem dL_isSample_183 : decode cL_isSample 183 = .ok (.invokevirtual 8, 3) := by decide +kernel
theorem dL_isSample_186 : decode cL_isSample 186 = .ok (.istore 17, 2) := by decide +kernel
theorem dL_isSample_188 : decode cL_isSample 188 = .ok (.aload_n 0, 1) := by decide +kernel
theorem dL_isSample_189 : decode cL_isSample 189 = .ok (.iload_n 1, 1) := by decide +kernel
theorem dL_isSample_190 : decode cL_isSample 190 = .ok (.iload_n 2, 1) := by decide +kernel
theorem dL_isSample_191 : decode cL_isSample 191 = .ok (.invokevirtual 32, 3) := by decide +kernel
theorem dL_isSample_194 : decode cL_isSample 194 = .ok (.iload 16, 2) := by decide +kernel
theorem dL_isSample_196 : decode cL_isSample 196 = .ok (.if_icmp .ne 58, 3) := by decide +kernel
theorem dL_isSample_199 : decode cL_isSample 199 = .ok (.aload_n 0, 1) := by decide +kernel
theorem dL_isSample_200 : decode cL_isSample 200 = .ok (.iconst 0, 1) := by decide +kernel
theorem dL_isSample_201 : decode cL_isSample 201 = .ok (.invokevirtual 8, 3) := by decide +kernel
theorem dL_isSample_204 : decode cL_isSample 204 = .ok (.iload 17, 2) := by decide +kernel
theorem dL_isSample_206 : decode cL_isSample 206 = .ok (.iconst 1, 1) := by decide +kernel
theorem dL_isSample_207 : decode cL_isSample 207 = .ok (.iadd, 1) := by decide +kernel
theorem dL_isSample_208 : decode cL_isSample 208 = .ok (.if_icmp .ne 46, 3) := by decide +kernel
theorem dL_isSample_211 : decode cL_isSample 211 = .ok (.aload_n 0, 1) := by decide +kernel
theorem dL_isSample_212 : decode cL_isSample 212 = .ok (.iconst 3, 1) := by decide +kernel
theorem dL_isSample_213 : decode cL_isSample 213 = .ok (.invokevirtual 8, 3) := by decide +kernel
theorem dL_isSample_216 : decode cL_isSample 216 = .ok (.iload 8, 2) := by decide +kernel
theorem dL_isSample_218 : decode cL_isSample 218 = .ok (.ifCond .le 10, 3) := by decide +kernel
theorem dL_isSample_221 : decode cL_isSample 221 = .ok (.iload 8, 2) := by decide +kernel
theorem dL_isSample_223 : decode cL_isSample 223 = .ok (.iconst 1, 1) := by decide +kernel
theorem dL_isSample_224 : decode cL_isSample 224 = .ok (.isub, 1) := by decide +kernel
theorem dL_isSample_225 : decode cL_isSample 225 = .ok (.goto 4, 3) := by decide +kernel
theorem dL_isSample_228 : decode cL_isSample 228 = .ok (.iconst 0, 1) := by decide +kernel
theorem dL_isSample_229 : decode cL_isSample 229 = .ok (.if_icmp .ne 25, 3) := by decide +kernel
theorem dL_isSample_232 : decode cL_isSample 232 = .ok (.iload 16, 2) := by decide +kernel
theorem dL_isSample_234 : decode cL_isSample 234 = .ok (.sipush 1000, 3) := by decide +kernel
theorem dL_isSample_237 : decode cL_isSample 237 = .ok (.aload_n 0, 1) := by decide +kernel
theorem dL_isSample_238 : decode cL_isSample 238 = .ok (.iconst 0, 1) := by decide +kernel
theorem dL_isSample_239 : decode cL_isSample 239 = .ok (.iconst 1, 1) := by decide +kernel
theorem dL_isSample_240 : decode cL_isSample 240 = .ok (.invokevirtual 14, 3) := by decide +kernel
theorem dL_isSample_243 : decode cL_isSample 243 = .ok (.imul, 1) := by decide +kernel
theorem dL_isSample_244 : decode cL_isSample 244 = .ok (.aload_n 0, 1) := by decide +kernel
theorem dL_isSample_245 : decode cL_isSample 245 = .ok (.iconst 1, 1) := by decide +kernel
theorem dL_isSample_246 : decode cL_isSample 246 = .ok (.iconst 1, 1) := by decide +kernel
theorem dL_isSample_247 : decode cL_isSample 247 = .ok (.invokevirtual 14, 3) := by decide +kernel
theorem dL_isSample_250 : decode cL_isSample 250 = .ok (.iadd, 1) := by decide +kernel
theorem dL_isSample_251 : decode cL_isSample 251 = .ok (.if_icmp .eq 5, 3) := by decide +kernel
theorem dL_isSample_254 : decode cL_isSample 254 = .ok (.iconst 0, 1) := by decide +kernel
theorem dL_isSample_255 : decode cL_isSample 255 = .ok (.ireturn, 1) := by decide +kernel
theorem dL_isSample_256 : decode cL_isSample 256 = .ok (.aload_n 0, 1) := by decide +kernel
theorem dL_isSample_257 : decode cL_isSample 257 = .ok (.iconst 0, 1) := by decide +kernel
theorem dL_isSample_258 : decode cL_isSample 258 = .ok (.iconst 1, 1) := by decide +kernel
theorem dL_isSample_259 : decode cL_isSample 259 = .ok (.invokevirtual 14, 3) := by decide +kernel
theorem dL_isSample_262 : decode cL_isSample 262 = .ok (.bipush 100, 2) := by decide +kernel
theorem dL_isSample_264 : decode cL_isSample 264 = .ok (.isub, 1) := by decide +kernel
theorem dL_isSample_265 : decode cL_isSample 265 = .ok (.istore 18, 2) := by decide +kernel
theorem dL_isSample_267 : decode cL_isSample 267 = .ok (.aload_n 0, 1) := by decide +kernel
theorem dL_isSample_268 : decode cL_isSample 268 = .ok (.iconst 1, 1) := by decide +kernel
theorem dL_isSample_269 : decode cL_isSample 269 = .ok (.iconst 1, 1) := by decide +kernel
theorem dL_isSample_270 : decode cL_isSample 270 = .ok (.invokevirtual 14, 3) := by decide +kernel
theorem dL_isSample_273 : decode cL_isSample 273 = .ok (.bipush 100, 2) := by decide +kernel
theorem dL_isSample_275 : decode cL_isSample 275 = .ok (.isub, 1) := by decide +kernel
theorem dL_isSample_276 : decode cL_isSample 276 = .ok (.istore 19, 2) := by decide +kernel
theorem dL_isSample_278 : decode cL_isSample 278 = .ok (.iload 6, 2) := by decide +kernel
theorem dL_isSample_280 : decode cL_isSample 280 = .ok (.iload_n 3, 1) := by decide +kernel
theorem dL_isSample_281 : decode cL_isSample 281 = .ok (.if_icmp .gt 246, 3) := by decide +kernel
theorem dL_isSample_284 : decode cL_isSample 284 = .ok (.iload 18, 2) := by decide +kernel
theorem dL_isSample_286 : decode cL_isSample 286 = .ok (.ifCond .ne 64, 3) := by decide +kernel
theorem dL_isSample_289 : decode cL_isSample 289 = .ok (.iload 19, 2) := by decide +kernel
theorem dL_isSample_291 : decode cL_isSample 291 = .ok (.ifCond .ne 59, 3) := by decide +kernel
theorem dL_isSample_294 : decode cL_isSample 294 = .ok (.aload_n 0, 1) := by decide +kernel
theorem dL_isSample_295 : decode cL_isSample 295 = .ok (.iconst 4, 1) := by decide +kernel
theorem dL_isSample_296 : decode cL_isSample 296 = .ok (.invokevirtual 8, 3) := by decide +kernel
theorem dL_isSample_299 : decode cL_isSample 299 = .ok (.iload 9, 2) := by decide +kernel
theorem dL_isSample_301 : decode cL_isSample 301 = .ok (.iload 14, 2) := by decide +kernel
theorem dL_isSample_303 : decode cL_isSample 303 = .ok (.ifCond .eq 7, 3) := by decide +kernel
theorem dL_isSample_306 : decode cL_isSample 306 = .ok (.iconst 1, 1) := by decide +kernel
theorem dL_isSample_307 : decode cL_isSample 307 = .ok (.goto 4, 3) := by decide +kernel
theorem dL_isSample_310 : decode cL_isSample 310 = .ok (.iconst 0, 1) := by decide +kernel
theorem dL_isSample_311 : decode cL_isSample 311 = .ok (.iadd, 1) := by decide +kernel
theorem dL_isSample_312 : decode cL_isSample 312 = .ok (.if_icmp .ne 38, 3) := by decide +kernel
theorem dL_isSample_315 : decode cL_isSample 315 = .ok (.aload_n 0, 1) := by decide +kernel
theorem dL_isSample_316 : decode cL_isSample 316 = .ok (.iconst 5, 1) := by decide +kernel
theorem dL_isSample_317 : decode cL_isSample 317 = .ok (.invokevirtual 8, 3) := by decide +kernel
theorem dL_isSample_320 : decode cL_isSample 320 = .ok (.iload 10, 2) := by decide +kernel
theorem dL_isSample_322 : decode cL_isSample 322 = .ok (.if_icmp .ne 28, 3) := by decide +kernel
theorem dL_isSample_325 : decode cL_isSample 325 = .ok (.aload_n 0, 1) := by decide +kernel
theorem dL_isSample_326 : decode cL_isSample 326 = .ok (.iconst 2, 1) := by decide +kernel
theorem dL_isSample_327 : decode cL_isSample 327 = .ok (.invokevirtual 8, 3) := by decide +kernel
theorem dL_isSample_330 : decode cL_isSample 330 = .ok (.iload 15, 2) := by decide +kernel
theorem dL_isSample_332 : decode cL_isSample 332 = .ok (.ifCond .eq 10, 3) := by decide +kernel
theorem dL_isSample_335 : decode cL_isSample 335 = .ok (.iload 7, 2) := by decide +kernel
theorem dL_isSample_337 : decode cL_isSample 337 = .ok (.iconst 1, 1) := by decide +kernel
theorem dL_isSample_338 : decode cL_isSample 338 = .ok (.iadd, 1) := by decide +kernel
theorem dL_isSample_339 : decode cL_isSample 339 = .ok (.goto 4, 3) := by decide +kernel
theorem dL_isSample_342 : decode cL_isSample 342 = .ok (.iconst 0, 1) := by decide +kernel
theorem dL_isSample_343 : decode cL_isSample 343 = .ok (.if_icmp .ne 7, 3) := by decide +kernel
theorem dL_isSample_346 : decode cL_isSample 346 = .ok (.iconst 1, 1) := by decide +kernel
theorem dL_isSample_347 : decode cL_isSample 347 = .ok (.goto 4, 3) := by decide +kernel
theorem dL_isSample_350 : decode cL_isSample 350 = .ok (.iconst 0, 1) := by decide +kernel
theorem dL_isSample_351 : decode cL_isSample 351 = .ok (.istore 20, 2) := by decide +kernel
theorem dL_isSample_353 : decode cL_isSample 353 = .ok (.aload_n 0, 1) := by decide +kernel
theorem dL_isSample_354 : decode cL_isSample 354 = .ok (.bipush 10, 2) := by decide +kernel
theorem dL_isSample_356 : decode cL_isSample 356 = .ok (.invokevirtual 8, 3) := by decide +kernel
theorem dL_isSample_359 : decode cL_isSample 359 = .ok (.istore 21, 2) := by decide +kernel
theorem dL_isSample_361 : decode cL_isSample 361 = .ok (.iload 20, 2) := by decide +kernel
theorem dL_isSample_363 : decode cL_isSample 363 = .ok (.ifCond .eq 162, 3) := by decide +kernel
theorem dL_isSample_366 : decode cL_isSample 366 = .ok (.iload 8, 2) := by decide +kernel
theorem dL_isSample_368 : decode cL_isSample 368 = .ok (.ifCond .le 50, 3) := by decide +kernel
theorem dL_isSample_371 : decode cL_isSample 371 = .ok (.aload_n 0, 1) := by decide +kernel
theorem dL_isSample_372 : decode cL_isSample 372 = .ok (.bipush 9, 2) := by decide +kernel
theorem dL_isSample_374 : decode cL_isSample 374 = .ok (.invokevirtual 8, 3) := by decide +kernel
theorem dL_isSample_377 : decode cL_isSample 377 = .ok (.iload 11, 2) := by decide +kernel
theorem dL_isSample_379 : decode cL_isSample 379 = .ok (.iconst 1, 1) := by decide +kernel
theorem dL_isSample_380 : decode cL_isSample 380 = .ok (.iadd, 1) := by decide +kernel
theorem dL_isSample_381 : decode cL_isSample 381 = .ok (.if_icmp .ne 144, 3) := by decide +kernel
theorem dL_isSample_384 : decode cL_isSample 384 = .ok (.aload_n 0, 1) := by decide +kernel
theorem dL_isSample_385 : decode cL_isSample 385 = .ok (.iconst 1, 1) := by decide +kernel
theorem dL_isSample_386 : decode cL_isSample 386 = .ok (.invokevirtual 8, 3) := by decide +kernel
theorem dL_isSample_389 : decode cL_isSample 389 = .ok (.iload_n 3, 1) := by decide +kernel
theorem dL_isSample_390 : decode cL_isSample 390 = .ok (.if_icmp .ne 135, 3) := by decide +kernel
theorem dL_isSample_393 : decode cL_isSample 393 = .ok (.aload_n 0, 1) := by decide +kernel
theorem dL_isSample_394 : decode cL_isSample 394 = .ok (.iconst 0, 1) := by decide +kernel
theorem dL_isSample_395 : decode cL_isSample 395 = .ok (.iconst 0, 1) := by decide +kernel
theorem dL_isSample_396 : decode cL_isSample 396 = .ok (.invokevirtual 14, 3) := by decide +kernel
theorem dL_isSample_399 : decode cL_isSample 399 = .ok (.iload 12, 2) := by decide +kernel
theorem dL_isSample_401 : decode cL_isSample 401 = .ok (.if_icmp .ne 124, 3) := by decide +kernel
theorem dL_isSample_404 : decode cL_isSample 404 = .ok (.aload_n 0, 1) := by decide +kernel
theorem dL_isSample_405 : decode cL_isSample 405 = .ok (.iconst 1, 1) := by decide +kernel
theorem dL_isSample_406 : decode cL_isSample 406 = .ok (.iconst 0, 1) := by decide +kernel
theorem dL_isSample_407 : decode cL_isSample 407 = .ok (.invokevirtual 14, 3) := by decide +kernel
theorem dL_isSample_410 : decode cL_isSample 410 = .ok (.iload 13, 2) := by decide +kernel
theorem dL_isSample_412 : decode cL_isSample 412 = .ok (.if_icmp .ne 113, 3) := by decide +kernel
theorem dL_isSample_415 : decode cL_isSample 415 = .ok (.goto 106, 3) := by decide +kernel
theorem dL_isSample_418 : decode cL_isSample 418 = .ok (.aload_n 0, 1) := by decide +kernel
theorem dL_isSample_419 : decode cL_isSample 419 = .ok (.bipush 9, 2) := by decide +kernel
theorem dL_isSample_421 : decode cL_isSample 421 = .ok (.invokevirtual 8, 3) := by decide +kernel
theorem dL_isSample_424 : decode cL_isSample 424 = .ok (.iload 11, 2) := by decide +kernel
theorem dL_isSample_426 : decode cL_isSample 426 = .ok (.if_icmp .ne 99, 3) := by decide +kernel
theorem dL_isSample_429 : decode cL_isSample 429 = .ok (.aload_n 0, 1) := by decide +kernel
theorem dL_isSample_430 : decode cL_isSample 430 = .ok (.iconst 0, 1) := by decide +kernel
theorem dL_isSample_431 : decode cL_isSample 431 = .ok (.iconst 0, 1) := by decide +kernel
theorem dL_isSample_432 : decode cL_isSample 432 = .ok (.invokevirtual 14, 3) := by decide +kernel
theorem dL_isSample_435 : decode cL_isSample 435 = .ok (.iload 12, 2) := by decide +kernel
theorem dL_isSample_437 : decode cL_isSample 437 = .ok (.bipush 16, 2) := by decide +kernel
theorem dL_isSample_439 : decode cL_isSample 439 = .ok (.iload_n 1, 1) := by decide +kernel
theorem dL_isSample_440 : decode cL_isSample 440 = .ok (.imul, 1) := by decide +kernel
theorem dL_isSample_441 : decode cL_isSample 441 = .ok (.iload 12, 2) := by decide +kernel
theorem dL_isSample_443 : decode cL_isSample 443 = .ok (.isub, 1) := by decide +kernel
theorem dL_isSample_444 : decode cL_isSample 444 = .ok (.iload 21, 2) := by decide +kernel
theorem dL_isSample_446 : decode cL_isSample 446 = .ok (.idiv, 1) := by decide +kernel
theorem dL_isSample_447 : decode cL_isSample 447 = .ok (.iadd, 1) := by decide +kernel
theorem dL_isSample_448 : decode cL_isSample 448 = .ok (.if_icmp .ne 77, 3) := by decide +kernel
theorem dL_isSample_451 : decode cL_isSample 451 = .ok (.aload_n 0, 1) := by decide +kernel
theorem dL_isSample_452 : decode cL_isSample 452 = .ok (.iconst 1, 1) := by decide +kernel
theorem dL_isSample_453 : decode cL_isSample 453 = .ok (.iconst 0, 1) := by decide +kernel
theorem dL_isSample_454 : decode cL_isSample 454 = .ok (.invokevirtual 14, 3) := by decide +kernel
theorem dL_isSample_457 : decode cL_isSample 457 = .ok (.iload 13, 2) := by decide +kernel
theorem dL_isSample_459 : decode cL_isSample 459 = .ok (.bipush 16, 2) := by decide +kernel
theorem dL_isSample_461 : decode cL_isSample 461 = .ok (.iload_n 2, 1) := by decide +kernel
theorem dL_isSample_462 : decode cL_isSample 462 = .ok (.imul, 1) := by decide +kernel
theorem dL_isSample_463 : decode cL_isSample 463 = .ok (.iload 13, 2) := by decide +kernel
theorem dL_isSample_465 : decode cL_isSample 465 = .ok (.isub, 1) := by decide +kernel
theorem dL_isSample_466 : decode cL_isSample 466 = .ok (.iload 21, 2) := by decide +kernel
theorem dL_isSample_468 : decode cL_isSample 468 = .ok (.idiv, 1) := by decide +kernel
theorem dL_isSample_469 : decode cL_isSample 469 = .ok (.iadd, 1) := by decide +kernel
theorem dL_isSample_470 : decode cL_isSample 470 = .ok (.if_icmp .ne 55, 3) := by decide +kernel
theorem dL_isSample_473 : decode cL_isSample 473 = .ok (.aload_n 0, 1) := by decide +kernel
theorem dL_isSample_474 : decode cL_isSample 474 = .ok (.iconst 1, 1) := by decide +kernel
theorem dL_isSample_475 : decode cL_isSample 475 = .ok (.invokevirtual 8, 3) := by decide +kernel
theorem dL_isSample_478 : decode cL_isSample 478 = .ok (.iload_n 3, 1) := by decide +kernel
theorem dL_isSample_479 : decode cL_isSample 479 = .ok (.isub, 1) := by decide +kernel
theorem dL_isSample_480 : decode cL_isSample 480 = .ok (.invokestatic 18, 3) := by decide +kernel
theorem dL_isSample_483 : decode cL_isSample 483 = .ok (.iconst 2, 1) := by decide +kernel
theorem dL_isSample_484 : decode cL_isSample 484 = .ok (.if_icmp .ge 41, 3) := by decide +kernel
theorem dL_isSample_487 : decode cL_isSample 487 = .ok (.iconst 2, 1) := by decide +kernel
theorem dL_isSample_488 : decode cL_isSample 488 = .ok (.iload 6, 2) := by decide +kernel
theorem dL_isSample_490 : decode cL_isSample 490 = .ok (.imul, 1) := by decide +kernel
theorem dL_isSample_491 : decode cL_isSample 491 = .ok (.iload_n 3, 1) := by decide +kernel
theorem dL_isSample_492 : decode cL_isSample 492 = .ok (.if_icmp .le 12, 3) := by decide +kernel
theorem dL_isSample_495 : decode cL_isSample 495 = .ok (.aload_n 0, 1) := by decide +kernel
theorem dL_isSample_496 : decode cL_isSample 496 = .ok (.iconst 1, 1) := by decide +kernel
theorem dL_isSample_497 : decode cL_isSample 497 = .ok (.invokevirtual 8, 3) := by decide +kernel
theorem dL_isSample_500 : decode cL_isSample 500 = .ok (.iload_n 3, 1) := by decide +kernel
theorem dL_isSample_501 : decode cL_isSample 501 = .ok (.if_icmp .lt 24, 3) := by decide +kernel
theorem dL_isSample_504 : decode cL_isSample 504 = .ok (.iconst 4, 1) := by decide +kernel
theorem dL_isSample_505 : decode cL_isSample 505 = .ok (.iload 6, 2) := by decide +kernel
theorem dL_isSample_507 : decode cL_isSample 507 = .ok (.imul, 1) := by decide +kernel
theorem dL_isSample_508 : decode cL_isSample 508 = .ok (.iload_n 3, 1) := by decide +kernel
theorem dL_isSample_509 : decode cL_isSample 509 = .ok (.if_icmp .gt 12, 3) := by decide +kernel
theorem dL_isSample_512 : decode cL_isSample 512 = .ok (.aload_n 0, 1) := by decide +kernel
theorem dL_isSample_513 : decode cL_isSample 513 = .ok (.iconst 1, 1) := by decide +kernel
theorem dL_isSample_514 : decode cL_isSample 514 = .ok (.invokevirtual 8, 3) := by decide +kernel
theorem dL_isSample_517 : decode cL_isSample 517 = .ok (.iload_n 3, 1) := by decide +kernel
theorem dL_isSample_518 : decode cL_isSample 518 = .ok (.if_icmp .gt 7, 3) := by decide +kernel
theorem dL_isSample_521 : decode cL_isSample 521 = .ok (.iconst 1, 1) := by decide +kernel
theorem dL_isSample_522 : decode cL_isSample 522 = .ok (.goto 4, 3) := by decide +kernel
theorem dL_isSample_525 : decode cL_isSample 525 = .ok (.iconst 0, 1) := by decide +kernel
theorem dL_isSample_526 : decode cL_isSample 526 = .ok (.ireturn, 1) := by decide +kernel
theorem dL_isSample_527 : decode cL_isSample 527 = .ok (.iload 8, 2) := by decide +kernel
theorem dL_isSample_529 : decode cL_isSample 529 = .ok (.ifCond .ne 38, 3) := by decide +kernel
theorem dL_isSample_532 : decode cL_isSample 532 = .ok (.iload 15, 2) := by decide +kernel
theorem dL_isSample_534 : decode cL_isSample 534 = .ok (.ifCond .eq 10, 3) := by decide +kernel
theorem dL_isSample_537 : decode cL_isSample 537 = .ok (.iload 7, 2) := by decide +kernel
theorem dL_isSample_539 : decode cL_isSample 539 = .ok (.iconst 1, 1) := by decide +kernel
theorem dL_isSample_540 : decode cL_isSample 540 = .ok (.iadd, 1) := by decide +kernel
theorem dL_isSample_541 : decode cL_isSample 541 = .ok (.goto 4, 3) := by decide +kernel
theorem dL_isSample_544 : decode cL_isSample 544 = .ok (.iconst 0, 1) := by decide +kernel
theorem dL_isSample_545 : decode cL_isSample 545 = .ok (.aload_n 0, 1) := by decide +kernel
theorem dL_isSample_546 : decode cL_isSample 546 = .ok (.bipush 15, 2) := by decide +kernel
theorem dL_isSample_548 : decode cL_isSample 548 = .ok (.invokevirtual 8, 3) := by decide +kernel
theorem dL_isSample_551 : decode cL_isSample 551 = .ok (.if_icmp .lt 16, 3) := by decide +kernel
theorem dL_isSample_554 : decode cL_isSample 554 = .ok (.iload 6, 2) := by decide +kernel
theorem dL_isSample_556 : decode cL_isSample 556 = .ok (.iload_n 3, 1) := by decide +kernel
theorem dL_isSample_557 : decode cL_isSample 557 = .ok (.bipush 8, 2) := by decide +kernel
theorem dL_isSample_559 : decode cL_isSample 559 = .ok (.iadd, 1) := by decide +kernel
theorem dL_isSample_560 : decode cL_isSample 560 = .ok (.if_icmp .gt 7, 3) := by decide +kernel
theorem dL_isSample_563 : decode cL_isSample 563 = .ok (.iconst 1, 1) := by decide +kernel
theorem dL_isSample_564 : decode cL_isSample 564 = .ok (.goto 4, 3) := by decide +kernel
theorem dL_isSample_567 : decode cL_isSample 567 = .ok (.iconst 0, 1) := by decide +kernel
theorem dL_isSample_568 : decode cL_isSample 568 = .ok (.istore 20, 2) := by decide +kernel
theorem dL_isSample_570 : decode cL_isSample 570 = .ok (.aload_n 0, 1) := by decide +kernel
theorem dL_isSample_571 : decode cL_isSample 571 = .ok (.iconst 4, 1) := by decide +kernel
theorem dL_isSample_572 : decode cL_isSample 572 = .ok (.invokevirtual 8, 3) := by decide +kernel
theorem dL_isSample_575 : decode cL_isSample 575 = .ok (.iload 9, 2) := by decide +kernel
theorem dL_isSample_577 : decode cL_isSample 577 = .ok (.if_icmp .ne 48, 3) := by decide +kernel
theorem dL_isSample_580 : decode cL_isSample 580 = .ok (.aload_n 0, 1) := by decide +kernel
theorem dL_isSample_581 : decode cL_isSample 581 = .ok (.bipush 9, 2) := by decide +kernel
theorem dL_isSample_583 : decode cL_isSample 583 = .ok (.invokevirtual 8, 3) := by decide +kernel
theorem dL_isSample_586 : decode cL_isSample 586 = .ok (.iload 11, 2) := by decide +kernel
theorem dL_isSample_588 : decode cL_isSample 588 = .ok (.if_icmp .ne 37, 3) := by decide +kernel
theorem dL_isSample_591 : decode cL_isSample 591 = .ok (.aload_n 0, 1) := by decide +kernel
theorem dL_isSample_592 : decode cL_isSample 592 = .ok (.iconst 1, 1) := by decide +kernel
theorem dL_isSample_593 : decode cL_isSample 593 = .ok (.invokevirtual 8, 3) := by decide +kernel
theorem dL_isSample_596 : decode cL_isSample 596 = .ok (.iload_n 3, 1) := by decide +kernel
theorem dL_isSample_597 : decode cL_isSample 597 = .ok (.if_icmp .ne 28, 3) := by decide +kernel
theorem dL_isSample_600 : decode cL_isSample 600 = .ok (.aload_n 0, 1) := by decide +kernel
theorem dL_isSample_601 : decode cL_isSample 601 = .ok (.iconst 5, 1) := by decide +kernel
theorem dL_isSample_602 : decode cL_isSample 602 = .ok (.invokevirtual 8, 3) := by decide +kernel
theorem dL_isSample_605 : decode cL_isSample 605 = .ok (.iload 10, 2) := by decide +kernel
theorem dL_isSample_607 : decode cL_isSample 607 = .ok (.iload 20, 2) := by decide +kernel
theorem dL_isSample_609 : decode cL_isSample 609 = .ok (.ifCond .eq 7, 3) := by decide +kernel
theorem dL_isSample_612 : decode cL_isSample 612 = .ok (.iconst 1, 1) := by decide +kernel
theorem dL_isSample_613 : decode cL_isSample 613 = .ok (.goto 4, 3) := by decide +kernel
theorem dL_isSample_616 : decode cL_isSample 616 = .ok (.iconst 0, 1) := by decide +kernel
theorem dL_isSample_617 : decode cL_isSample 617 = .ok (.iadd, 1) := by decide +kernel
theorem dL_isSample_618 : decode cL_isSample 618 = .ok (.if_icmp .ne 7, 3) := by decide +kernel
theorem dL_isSample_621 : decode cL_isSample 621 = .ok (.iconst 1, 1) := by decide +kernel
theorem dL_isSample_622 : decode cL_isSample 622 = .ok (.goto 4, 3) := by decide +kernel
theorem dL_isSample_625 : decode cL_isSample 625 = .ok (.iconst 0, 1) := by decide +kernel
theorem dL_isSample_626 : decode cL_isSample 626 = .ok (.istore 21, 2) := by decide +kernel
theorem dL_isSample_628 : decode cL_isSample 628 = .ok (.iload 20, 2) := by decide +kernel
theorem dL_isSample_630 : decode cL_isSample 630 = .ok (.ifCond .eq 58, 3) := by decide +kernel
theorem dL_isSample_633 : decode cL_isSample 633 = .ok (.iload 21, 2) := by decide +kernel
theorem dL_isSample_635 : decode cL_isSample 635 = .ok (.ifCond .eq 51, 3) := by decide +kernel
theorem dL_isSample_638 : decode cL_isSample 638 = .ok (.iload 18, 2) := by decide +kernel
theorem dL_isSample_640 : decode cL_isSample 640 = .ok (.ifCond .ne 46, 3) := by decide +kernel
theorem dL_isSample_643 : decode cL_isSample 643 = .ok (.iload 19, 2) := by decide +kernel
theorem dL_isSample_645 : decode cL_isSample 645 = .ok (.ifCond .ne 41, 3) := by decide +kernel
theorem dL_isSample_648 : decode cL_isSample 648 = .ok (.aload_n 0, 1) := by decide +kernel
theorem dL_isSample_649 : decode cL_isSample 649 = .ok (.iconst 0, 1) := by decide +kernel
theorem dL_isSample_650 : decode cL_isSample 650 = .ok (.iconst 0, 1) := by decide +kernel
theorem dL_isSample_651 : decode cL_isSample 651 = .ok (.invokevirtual 14, 3) := by decide +kernel
theorem dL_isSample_654 : decode cL_isSample 654 = .ok (.bipush 16, 2) := by decide +kernel
theorem dL_isSample_656 : decode cL_isSample 656 = .ok (.iload_n 1, 1) := by decide +kernel
theorem dL_isSample_657 : decode cL_isSample 657 = .ok (.imul, 1) := by decide +kernel
theorem dL_isSample_658 : decode cL_isSample 658 = .ok (.if_icmp .ne 28, 3) := by decide +kernel
theorem dL_isSample_661 : decode cL_isSample 661 = .ok (.aload_n 0, 1) := by decide +kernel
theorem dL_isSample_662 : decode cL_isSample 662 = .ok (.iconst 1, 1) := by decide +kernel
theorem dL_isSample_663 : decode cL_isSample 663 = .ok (.iconst 0, 1) := by decide +kernel
theorem dL_isSample_664 : decode cL_isSample 664 = .ok (.invokevirtual 14, 3) := by decide +kernel
theorem dL_isSample_667 : decode cL_isSample 667 = .ok (.bipush 16, 2) := by decide +kernel
theorem dL_isSample_669 : decode cL_isSample 669 = .ok (.iload_n 2, 1) := by decide +kernel
theorem dL_isSample_670 : decode cL_isSample 670 = .ok (.imul, 1) := by decide +kernel
theorem dL_isSample_671 : decode cL_isSample 671 = .ok (.if_icmp .ne 15, 3) := by decide +kernel
theorem dL_isSample_674 : decode cL_isSample 674 = .ok (.aload_n 0, 1) := by decide +kernel
theorem dL_isSample_675 : decode cL_isSample 675 = .ok (.iconst 2, 1) := by decide +kernel
theorem dL_isSample_676 : decode cL_isSample 676 = .ok (.invokevirtual 8, 3) := by decide +kernel
theorem dL_isSample_679 : decode cL_isSample 679 = .ok (.ifCond .ne 7, 3) := by decide +kernel
theorem dL_isSample_682 : decode cL_isSample 682 = .ok (.iconst 1, 1) := by decide +kernel
theorem dL_isSample_683 : decode cL_isSample 683 = .ok (.goto 4, 3) := by decide +kernel
theorem dL_isSample_686 : decode cL_isSample 686 = .ok (.iconst 0, 1) := by decide +kernel
theorem dL_isSample_687 : decode cL_isSample 687 = .ok (.ireturn, 1) := by decide +kernel
theorem dL_isSample_688 : decode cL_isSample 688 = .ok (.iload 21, 2) := by decide +kernel
theorem dL_isSample_690 : decode cL_isSample 690 = .ok (.ifCond .eq 73, 3) := by decide +kernel
theorem dL_isSample_693 : decode cL_isSample 693 = .ok (.aload_n 0, 1) := by decide +kernel
theorem dL_isSample_694 : decode cL_isSample 694 = .ok (.iconst 0, 1) := by decide +kernel
theorem dL_isSample_695 : decode cL_isSample 695 = .ok (.iconst 0, 1) := by decide +kernel
theorem dL_isSample_696 : decode cL_isSample 696 = .ok (.invokevirtual 14, 3) := by decide +kernel
theorem dL_isSample_699 : decode cL_isSample 699 = .ok (.iload 12, 2) := by decide +kernel
theorem dL_isSample_701 : decode cL_isSample 701 = .ok (.if_icmp .ne 62, 3) := by decide +kernel
theorem dL_isSample_704 : decode cL_isSample 704 = .ok (.aload_n 0, 1) := by decide +kernel
theorem dL_isSample_705 : decode cL_isSample 705 = .ok (.iconst 1, 1) := by decide +kernel
theorem dL_isSample_706 : decode cL_isSample 706 = .ok (.iconst 0, 1) := by decide +kernel
theorem dL_isSample_707 : decode cL_isSample 707 = .ok (.invokevirtual 14, 3) := by decide +kernel
theorem dL_isSample_710 : decode cL_isSample 710 = .ok (.iload 13, 2) := by decide +kernel
theorem dL_isSample_712 : decode cL_isSample 712 = .ok (.if_icmp .ne 51, 3) := by decide +kernel
theorem dL_isSample_715 : decode cL_isSample 715 = .ok (.iload 18, 2) := by decide +kernel
theorem dL_isSample_717 : decode cL_isSample 717 = .ok (.iload 4, 2) := by decide +kernel
theorem dL_isSample_719 : decode cL_isSample 719 = .ok (.imul, 1) := by decide +kernel
theorem dL_isSample_720 : decode cL_isSample 720 = .ok (.ifCond .lt 43, 3) := by decide +kernel
theorem dL_isSample_723 : decode cL_isSample 723 = .ok (.iload 19, 2) := by decide +kernel
theorem dL_isSample_725 : decode cL_isSample 725 = .ok (.iload 5, 2) := by decide +kernel
theorem dL_isSample_727 : decode cL_isSample 727 = .ok (.imul, 1) := by decide +kernel
theorem dL_isSample_728 : decode cL_isSample 728 = .ok (.ifCond .lt 35, 3) := by decide +kernel
theorem dL_isSample_731 : decode cL_isSample 731 = .ok (.iload 4, 2) := by decide +kernel
theorem dL_isSample_733 : decode cL_isSample 733 = .ok (.invokestatic 18, 3) := by decide +kernel
theorem dL_isSample_736 : decode cL_isSample 736 = .ok (.iload_n 3, 1) := by decide +kernel
theorem dL_isSample_737 : decode cL_isSample 737 = .ok (.if_icmp .gt 8, 3) := by decide +kernel
theorem dL_isSample_740 : decode cL_isSample 740 = .ok (.iload 18, 2) := by decide +kernel
theorem dL_isSample_742 : decode cL_isSample 742 = .ok (.ifCond .ne 21, 3) := by decide +kernel
theorem dL_isSample_745 : decode cL_isSample 745 = .ok (.iload 5, 2) := by decide +kernel
theorem dL_isSample_747 : decode cL_isSample 747 = .ok (.invokestatic 18, 3) := by decide +kernel
theorem dL_isSample_750 : decode cL_isSample 750 = .ok (.iload_n 3, 1) := by decide +kernel
theorem dL_isSample_751 : decode cL_isSample 751 = .ok (.if_icmp .gt 8, 3) := by decide +kernel
theorem dL_isSample_754 : decode cL_isSample 754 = .ok (.iload 19, 2) := by decide +kernel
theorem dL_isSample_756 : decode cL_isSample 756 = .ok (.ifCond .ne 7, 3) := by decide +kernel
theorem dL_isSample_759 : decode cL_isSample 759 = .ok (.iconst 1, 1) := by decide +kernel
theorem dL_isSample_760 : decode cL_isSample 760 = .ok (.goto 4, 3) := by decide +kernel
theorem dL_isSample_763 : decode cL_isSample 763 = .ok (.iconst 0, 1) := by decide +kernel
theorem dL_isSample_764 : decode cL_isSample 764 = .ok (.istore 21, 2) := by decide +kernel
theorem dL_isSample_766 : decode cL_isSample 766 = .ok (.iload 21, 2) := by decide +kernel
theorem dL_isSample_768 : decode cL_isSample 768 = .ok (.ifCond .eq 59, 3) := by decide +kernel
theorem dL_isSample_771 : decode cL_isSample 771 = .ok (.iload 4, 2) := by decide +kernel
theorem dL_isSample_773 : decode cL_isSample 773 = .ok (.invokestatic 18, 3) := by decide +kernel
theorem dL_isSample_776 : decode cL_isSample 776 = .ok (.iload 5, 2) := by decide +kernel
theorem dL_isSample_778 : decode cL_isSample 778 = .ok (.invokestatic 18, 3) := by decide +kernel
theorem dL_isSample_781 : decode cL_isSample 781 = .ok (.if_icmp .lt 16, 3) := by decide +kernel
theorem dL_isSample_784 : decode cL_isSample 784 = .ok (.iload 18, 2) := by decide +kernel
theorem dL_isSample_786 : decode cL_isSample 786 = .ok (.invokestatic 18, 3) := by decide +kernel
theorem dL_isSample_789 : decode cL_isSample 789 = .ok (.iload 19, 2) := by decide +kernel
theorem dL_isSample_791 : decode cL_isSample 791 = .ok (.invokestatic 18, 3) := by decide +kernel
theorem dL_isSample_794 : decode cL_isSample 794 = .ok (.if_icmp .lt 33, 3) := by decide +kernel
theorem dL_isSample_797 : decode cL_isSample 797 = .ok (.iload 5, 2) := by decide +kernel
theorem dL_isSample_799 : decode cL_isSample 799 = .ok (.invokestatic 18, 3) := by decide +kernel
theorem dL_isSample_802 : decode cL_isSample 802 = .ok (.iload 4, 2) := by decide +kernel
theorem dL_isSample_804 : decode cL_isSample 804 = .ok (.invokestatic 18, 3) := by decide +kernel
theorem dL_isSample_807 : decode cL_isSample 807 = .ok (.if_icmp .lt 16, 3) := by decide +kernel
theorem dL_isSample_810 : decode cL_isSample 810 = .ok (.iload 19, 2) := by decide +kernel
theorem dL_isSample_812 : decode cL_isSample 812 = .ok (.invokestatic 18, 3) := by decide +kernel
theorem dL_isSample_815 : decode cL_isSample 815 = .ok (.iload 18, 2) := by decide +kernel
theorem dL_isSample_817 : decode cL_isSample 817 = .ok (.invokestatic 18, 3) := by decide +kernel
theorem dL_isSample_820 : decode cL_isSample 820 = .ok (.if_icmp .lt 7, 3) := by decide +kernel
theorem dL_isSample_823 : decode cL_isSample 823 = .ok (.iconst 1, 1) := by decide +kernel
theorem dL_isSample_824 : decode cL_isSample 824 = .ok (.goto 4, 3) := by decide +kernel
theorem dL_isSample_827 : decode cL_isSample 827 = .ok (.iconst 0, 1) := by decide +kernel
theorem dL_isSample_828 : decode cL_isSample 828 = .ok (.ireturn, 1) := by decide +kernel
theorem dL_isIn_0 : decode cL_isIn 0 = .ok (.aload_n 0, 1) := by decide +kernel
theorem dL_isIn_1 : decode cL_isIn 1 = .ok (.iload_n 1, 1) := by decide +kernel
theorem dL_isIn_2 : decode cL_isIn 2 = .ok (.iload_n 2, 1) := by decide +kernel
theorem dL_isIn_3 : decode cL_isIn 3 = .ok (.invokevirtual 35, 3) := by decide +kernel
theorem dL_isIn_6 : decode cL_isIn 6 = .ok (.istore_n 3, 1) := by decide +kernel
theorem dL_isIn_7 : decode cL_isIn 7 = .ok (.aload_n 0, 1) := by decide +kernel
theorem dL_isIn_8 : decode cL_isIn 8 = .ok (.iload_n 1, 1) := by decide +kernel
theorem dL_isIn_9 : decode cL_isIn 9 = .ok (.iload_n 2, 1) := by decide +kernel
theorem dL_isIn_10 : decode cL_isIn 10 = .ok (.invokevirtual 38, 3) := by decide +kernel
theorem dL_isIn_13 : decode cL_isIn 13 = .ok (.istore 4, 2) := by decide +kernel
theorem dL_isIn_15 : decode cL_isIn 15 = .ok (.aload_n 0, 1) := by decide +kernel
theorem dL_isIn_16 : decode cL_isIn 16 = .ok (.iconst 5, 1) := by decide +kernel
theorem dL_isIn_17 : decode cL_isIn 17 = .ok (.invokevirtual 8, 3) := by decide +kernel
theorem dL_isIn_20 : decode cL_isIn 20 = .ok (.istore 5, 2) := by decide +kernel
theorem dL_isIn_22 : decode cL_isIn 22 = .ok (.aload_n 0, 1) := by decide +kernel
theorem dL_isIn_23 : decode cL_isIn 23 = .ok (.iconst 1, 1) := by decide +kernel
theorem dL_isIn_24 : decode cL_isIn 24 = .ok (.invokevirtual 41, 3) := by decide +kernel
theorem dL_isIn_27 : decode cL_isIn 27 = .ok (.istore 6, 2) := by decide +kernel
theorem dL_isIn_29 : decode cL_isIn 29 = .ok (.iconst 0, 1) := by decide +kernel
theorem dL_isIn_30 : decode cL_isIn 30 = .ok (.istore 7, 2) := by decide +kernel
theorem dL_isIn_32 : decode cL_isIn 32 = .ok (.iconst (-1), 1) := by decide +kernel
theorem dL_isIn_33 : decode cL_isIn 33 = .ok (.istore 8, 2) := by decide +kernel
theorem dL_isIn_35 : decode cL_isIn 35 = .ok (.iload 6, 2) := by decide +kernel
theorem dL_isIn_37 : decode cL_isIn 37 = .ok (.aload_n 0, 1) := by decide +kernel
theorem dL_isIn_38 : decode cL_isIn 38 = .ok (.iconst 0, 1) := by decide +kernel
theorem dL_isIn_39 : decode cL_isIn 39 = .ok (.invokevirtual 8, 3) := by decide +kernel
theorem dL_isIn_42 : decode cL_isIn 42 = .ok (.if_icmp .ne 7, 3) := by decide +kernel
theorem dL_isIn_45 : decode cL_isIn 45 = .ok (.iconst 1, 1) := by decide +kernel
theorem dL_isIn_46 : decode cL_isIn 46 = .ok (.goto 4, 3) := by decide +kernel
theorem dL_isIn_49 : decode cL_isIn 49 = .ok (.iconst 0, 1) := by decide +kernel
theorem dL_isIn_50 : decode cL_isIn 50 = .ok (.istore 9, 2) := by decide +kernel
theorem dL_isIn_52 : decode cL_isIn 52 = .ok (.iconst 0, 1) := by decide +kernel
theorem dL_isIn_53 : decode cL_isIn 53 = .ok (.istore 10, 2) := by decide +kernel
theorem dL_isIn_55 : decode cL_isIn 55 = .ok (.iload 10, 2) := by decide +kernel
theorem dL_isIn_57 : decode cL_isIn 57 = .ok (.bipush 60, 2) := by decide +kernel
theorem dL_isIn_59 : decode cL_isIn 59 = .ok (.if_icmp .gt 171, 3) := by decide +kernel
theorem dL_isIn_62 : decode cL_isIn 62 = .ok (.iload_n 1, 1) := by decide +kernel
theorem dL_isIn_63 : decode cL_isIn 63 = .ok (.aload_n 0, 1) := by decide +kernel
theorem dL_isIn_64 : decode cL_isIn 64 = .ok (.iconst 0, 1) := by decide +kernel
theorem dL_isIn_65 : decode cL_isIn 65 = .ok (.iconst 0, 1) := by decide +kernel
theorem dL_isIn_66 : decode cL_isIn 66 = .ok (.invokevirtual 14, 3) := by decide +kernel
theorem dL_isIn_69 : decode cL_isIn 69 = .ok (.bipush 16, 2) := by decide +kernel
theorem dL_isIn_71 : decode cL_isIn 71 = .ok (.idiv, 1) := by decide +kernel
theorem dL_isIn_72 : decode cL_isIn 72 = .ok (.if_icmp .ne 20, 3) := by decide +kernel
theorem dL_isIn_75 : decode cL_isIn 75 = .ok (.iload_n 2, 1) := by decide +kernel
theorem dL_isIn_76 : decode cL_isIn 76 = .ok (.aload_n 0, 1) := by decide +kernel
theorem dL_isIn_77 : decode cL_isIn 77 = .ok (.iconst 1, 1) := by decide +kernel
theorem dL_isIn_78 : decode cL_isIn 78 = .ok (.iconst 0, 1) := by decide +kernel
theorem dL_isIn_79 : decode cL_isIn 79 = .ok (.invokevirtual 14, 3) := by decide +kernel
theorem dL_isIn_82 : decode cL_isIn 82 = .ok (.bipush 16, 2) := by decide +kernel
theorem dL_isIn_84 : decode cL_isIn 84 = .ok (.idiv, 1) := by decide +kernel
theorem dL_isIn_85 : decode cL_isIn 85 = .ok (.if_icmp .ne 7, 3) := by decide +kernel
theorem dL_isIn_88 : decode cL_isIn 88 = .ok (.iconst 1, 1) := by decide +kernel
theorem dL_isIn_89 : decode cL_isIn 89 = .ok (.goto 4, 3) := by decide +kernel
theorem dL_isIn_92 : decode cL_isIn 92 = .ok (.iconst 0, 1) := by decide +kernel
theorem dL_isIn_93 : decode cL_isIn 93 = .ok (.istore 11, 2) := by decide +kernel
theorem dL_isIn_95 : decode cL_isIn 95 = .ok (.iload 9, 2) := by decide +kernel
theorem dL_isIn_97 : decode cL_isIn 97 = .ok (.ifCond .eq 42, 3) := by decide +kernel
theorem dL_isIn_100 : decode cL_isIn 100 = .ok (.iload 11, 2) := by decide +kernel
theorem dL_isIn_102 : decode cL_isIn 102 = .ok (.ifCond .eq 27, 3) := by decide +kernel
theorem dL_isIn_105 : decode cL_isIn 105 = .ok (.iload_n 3, 1) := by decide +kernel
theorem dL_isIn_106 : decode cL_isIn 106 = .ok (.ifCond .lt 33, 3) := by decide +kernel
theorem dL_isIn_109 : decode cL_isIn 109 = .ok (.iload_n 3, 1) := by decide +kernel
theorem dL_isIn_110 : decode cL_isIn 110 = .ok (.iload 10, 2) := by decide +kernel
theorem dL_isIn_112 : decode cL_isIn 112 = .ok (.if_icmp .eq 23, 3) := by decide +kernel
theorem dL_isIn_115 : decode cL_isIn 115 = .ok (.iload 8, 2) := by decide +kernel
theorem dL_isIn_117 : decode cL_isIn 117 = .ok (.ifCond .lt 22, 3) := by decide +kernel
theorem dL_isIn_120 : decode cL_isIn 120 = .ok (.iload_n 3, 1) := by decide +kernel
theorem dL_isIn_121 : decode cL_isIn 121 = .ok (.iload 8, 2) := by decide +kernel
theorem dL_isIn_123 : decode cL_isIn 123 = .ok (.if_icmp .ne 16, 3) := by decide +kernel
theorem dL_isIn_126 : decode cL_isIn 126 = .ok (.goto 9, 3) := by decide +kernel
theorem dL_isIn_129 : decode cL_isIn 129 = .ok (.iload_n 3, 1) := by decide +kernel
theorem dL_isIn_130 : decode cL_isIn 130 = .ok (.iload 10, 2) := by decide +kernel
theorem dL_isIn_132 : decode cL_isIn 132 = .ok (.if_icmp .eq 7, 3) := by decide +kernel
theorem dL_isIn_135 : decode cL_isIn 135 = .ok (.iconst 1, 1) := by decide +kernel
theorem dL_isIn_136 : decode cL_isIn 136 = .ok (.goto 4, 3) := by decide +kernel
theorem dL_isIn_139 : decode cL_isIn 139 = .ok (.iconst 0, 1) := by decide +kernel
theorem dL_isIn_140 : decode cL_isIn 140 = .ok (.istore 9, 2) := by decide +kernel
theorem dL_isIn_142 : decode cL_isIn 142 = .ok (.iload 11, 2) := by decide +kernel
theorem dL_isIn_144 : decode cL_isIn 144 = .ok (.ifCond .eq 13, 3) := by decide +kernel
theorem dL_isIn_147 : decode cL_isIn 147 = .ok (.iload 8, 2) := by decide +kernel
theorem dL_isIn_149 : decode cL_isIn 149 = .ok (.ifCond .ge 8, 3) := by decide +kernel
theorem dL_isIn_152 : decode cL_isIn 152 = .ok (.iload 10, 2) := by decide +kernel
theorem dL_isIn_154 : decode cL_isIn 154 = .ok (.goto 5, 3) := by decide +kernel
theorem dL_isIn_157 : decode cL_isIn 157 = .ok (.iload 8, 2) := by decide +kernel
theorem dL_isIn_159 : decode cL_isIn 159 = .ok (.istore 8, 2) := by decide +kernel
theorem dL_isIn_161 : decode cL_isIn 161 = .ok (.aload_n 0, 1) := by decide +kernel
theorem dL_isIn_162 : decode cL_isIn 162 = .ok (.iload_n 1, 1) := by decide +kernel
theorem dL_isIn_163 : decode cL_isIn 163 = .ok (.iload_n 2, 1) := by decide +kernel
theorem dL_isIn_164 : decode cL_isIn 164 = .ok (.invokevirtual 32, 3) := by decide +kernel
theorem dL_isIn_167 : decode cL_isIn 167 = .ok (.istore 12, 2) := by decide +kernel
theorem dL_isIn_169 : decode cL_isIn 169 = .ok (.iinc 7 1, 3) := by decide +kernel
theorem dL_isIn_172 : decode cL_isIn 172 = .ok (.iload 9, 2) := by decide +kernel
theorem dL_isIn_174 : decode cL_isIn 174 = .ok (.ifCond .eq 47, 3) := by decide +kernel
theorem dL_isIn_177 : decode cL_isIn 177 = .ok (.iload 12, 2) := by decide +kernel
theorem dL_isIn_179 : decode cL_isIn 179 = .ok (.ifCond .lt 42, 3) := by decide +kernel
theorem dL_isIn_182 : decode cL_isIn 182 = .ok (.aload_n 0, 1) := by decide +kernel
theorem dL_isIn_183 : decode cL_isIn 183 = .ok (.iconst 5, 1) := by decide +kernel
theorem dL_isIn_184 : decode cL_isIn 184 = .ok (.invokevirtual 8, 3) := by decide +kernel
theorem dL_isIn_187 : decode cL_isIn 187 = .ok (.iload 5, 2) := by decide +kernel
theorem dL_isIn_189 : decode cL_isIn 189 = .ok (.if_icmp .le 7, 3) := by decide +kernel
theorem dL_isIn_192 : decode cL_isIn 192 = .ok (.iconst 1, 1) := by decide +kernel
theorem dL_isIn_193 : decode cL_isIn 193 = .ok (.goto 4, 3) := by decide +kernel
theorem dL_isIn_196 : decode cL_isIn 196 = .ok (.iconst 0, 1) := by decide +kernel
theorem dL_isIn_197 : decode cL_isIn 197 = .ok (.iload 4, 2) := by decide +kernel
theorem dL_isIn_199 : decode cL_isIn 199 = .ok (.ifCond .le 14, 3) := by decide +kernel
theorem dL_isIn_202 : decode cL_isIn 202 = .ok (.iload 7, 2) := by decide +kernel
theorem dL_isIn_204 : decode cL_isIn 204 = .ok (.iload 4, 2) := by decide +kernel
theorem dL_isIn_206 : decode cL_isIn 206 = .ok (.if_icmp .lt 7, 3) := by decide +kernel
theorem dL_isIn_209 : decode cL_isIn 209 = .ok (.iconst 1, 1) := by decide +kernel
theorem dL_isIn_210 : decode cL_isIn 210 = .ok (.goto 4, 3) := by decide +kernel
theorem dL_isIn_213 : decode cL_isIn 213 = .ok (.iconst 0, 1) := by decide +kernel
theorem dL_isIn_214 : decode cL_isIn 214 = .ok (.if_icmp .ne 7, 3) := by decide +kernel
theorem dL_isIn_217 : decode cL_isIn 217 = .ok (.iconst 1, 1) := by decide +kernel
theorem dL_isIn_218 : decode cL_isIn 218 = .ok (.goto 4, 3) := by decide +kernel
theorem dL_isIn_221 : decode cL_isIn 221 = .ok (.iconst 0, 1) := by decide +kernel
theorem dL_isIn_222 : decode cL_isIn 222 = .ok (.istore 9, 2) := by decide +kernel
theorem dL_isIn_224 : decode cL_isIn 224 = .ok (.iinc 10 1, 3) := by decide +kernel
theorem dL_isIn_227 : decode cL_isIn 227 = .ok (.goto (-172), 3) := by decide +kernel
theorem dL_isIn_230 : decode cL_isIn 230 = .ok (.iload 9, 2) := by decide +kernel
theorem dL_isIn_232 : decode cL_isIn 232 = .ok (.ifCond .eq 27, 3) := by decide +kernel
theorem dL_isIn_235 : decode cL_isIn 235 = .ok (.aload_n 0, 1) := by decide +kernel
theorem dL_isIn_236 : decode cL_isIn 236 = .ok (.iconst 1, 1) := by decide +kernel
theorem dL_isIn_237 : decode cL_isIn 237 = .ok (.invokevirtual 44, 3) := by decide +kernel
theorem dL_isIn_240 : decode cL_isIn 240 = .ok (.iload 6, 2) := by decide +kernel
theorem dL_isIn_242 : decode cL_isIn 242 = .ok (.if_icmp .ne 17, 3) := by decide +kernel
theorem dL_isIn_245 : decode cL_isIn 245 = .ok (.aload_n 0, 1) := by decide +kernel
theorem dL_isIn_246 : decode cL_isIn 246 = .ok (.iconst 5, 1) := by decide +kernel
theorem dL_isIn_247 : decode cL_isIn 247 = .ok (.invokevirtual 8, 3) := by decide +kernel
theorem dL_isIn_250 : decode cL_isIn 250 = .ok (.iload 5, 2) := by decide +kernel
theorem dL_isIn_252 : decode cL_isIn 252 = .ok (.if_icmp .ne 7, 3) := by decide +kernel
theorem dL_isIn_255 : decode cL_isIn 255 = .ok (.iconst 1, 1) := by decide +kernel
theorem dL_isIn_256 : decode cL_isIn 256 = .ok (.goto 4, 3) := by decide +kernel
theorem dL_isIn_259 : decode cL_isIn 259 = .ok (.iconst 0, 1) := by decide +kernel
theorem dL_isIn_260 : decode cL_isIn 260 = .ok (.ireturn, 1) := by decide +kernel
theorem dL_isEdge_0 : decode cL_isEdge 0 = .ok (.aload_n 0, 1) := by decide +kernel
theorem dL_isEdge_1 : decode cL_isEdge 1 = .ok (.iload_n 1, 1) := by decide +kernel
theorem dL_isEdge_2 : decode cL_isEdge 2 = .ok (.iload_n 2, 1) := by decide +kernel
theorem dL_isEdge_3 : decode cL_isEdge 3 = .ok (.invokevirtual 47, 3) := by decide +kernel
theorem dL_isEdge_6 : decode cL_isEdge 6 = .ok (.istore_n 3, 1) := by decide +kernel
theorem dL_isEdge_7 : decode cL_isEdge 7 = .ok (.aload_n 0, 1) := by decide +kernel
theorem dL_isEdge_8 : decode cL_isEdge 8 = .ok (.iconst 0, 1) := by decide +kernel
theorem dL_isEdge_9 : decode cL_isEdge 9 = .ok (.iconst 0, 1) := by decide +kernel
theorem dL_isEdge_10 : decode cL_isEdge 10 = .ok (.invokevirtual 14, 3) := by decide +kernel
theorem dL_isEdge_13 : decode cL_isEdge 13 = .ok (.bipush 16, 2) := by decide +kernel
theorem dL_isEdge_15 : decode cL_isEdge 15 = .ok (.idiv, 1) := by decide +kernel
theorem dL_isEdge_16 : decode cL_isEdge 16 = .ok (.istore 4, 2) := by decide +kernel
theorem dL_isEdge_18 : decode cL_isEdge 18 = .ok (.aload_n 0, 1) := by decide +kernel
theorem dL_isEdge_19 : decode cL_isEdge 19 = .ok (.iconst 1, 1) := by decide +kernel
theorem dL_isEdge_20 : decode cL_isEdge 20 = .ok (.iconst 0, 1) := by decide +kernel
theorem dL_isEdge_21 : decode cL_isEdge 21 = .ok (.invokevirtual 14, 3) := by decide +kernel
theorem dL_isEdge_24 : decode cL_isEdge 24 = .ok (.bipush 16, 2) := by decide +kernel
theorem dL_isEdge_26 : decode cL_isEdge 26 = .ok (.idiv, 1) := by decide +kernel
theorem dL_isEdge_27 : decode cL_isEdge 27 = .ok (.istore 5, 2) := by decide +kernel
theorem dL_isEdge_29 : decode cL_isEdge 29 = .ok (.iconst 1, 1) := by decide +kernel
theorem dL_isEdge_30 : decode cL_isEdge 30 = .ok (.istore 6, 2) := by decide +kernel
theorem dL_isEdge_32 : decode cL_isEdge 32 = .ok (.iload 6, 2) := by decide +kernel
theorem dL_isEdge_34 : decode cL_isEdge 34 = .ok (.sipush 255, 3) := by decide +kernel
theorem dL_isEdge_37 : decode cL_isEdge 37 = .ok (.if_icmp .gt 106, 3) := by decide +kernel
theorem dL_isEdge_40 : decode cL_isEdge 40 = .ok (.iload_n 2, 1) := by decide +kernel
theorem dL_isEdge_41 : decode cL_isEdge 41 = .ok (.iconst 1, 1) := by decide +kernel
theorem dL_isEdge_42 : decode cL_isEdge 42 = .ok (.if_icmp .ne 8, 3) := by decide +kernel
theorem dL_isEdge_45 : decode cL_isEdge 45 = .ok (.iload 6, 2) := by decide +kernel
theorem dL_isEdge_47 : decode cL_isEdge 47 = .ok (.goto 6, 3) := by decide +kernel
theorem dL_isEdge_50 : decode cL_isEdge 50 = .ok (.iload 6, 2) := by decide +kernel
theorem dL_isEdge_52 : decode cL_isEdge 52 = .ok (.ineg, 1) := by decide +kernel
theorem dL_isEdge_53 : decode cL_isEdge 53 = .ok (.istore 7, 2) := by decide +kernel
theorem dL_isEdge_55 : decode cL_isEdge 55 = .ok (.aload_n 0, 1) := by decide +kernel
theorem dL_isEdge_56 : decode cL_isEdge 56 = .ok (.iload_n 1, 1) := by decide +kernel
theorem dL_isEdge_57 : decode cL_isEdge 57 = .ok (.ifCond .ne 11, 3) := by decide +kernel
theorem dL_isEdge_60 : decode cL_isEdge 60 = .ok (.iload 4, 2) := by decide +kernel
theorem dL_isEdge_62 : decode cL_isEdge 62 = .ok (.iload 7, 2) := by decide +kernel
theorem dL_isEdge_64 : decode cL_isEdge 64 = .ok (.iadd, 1) := by decide +kernel
theorem dL_isEdge_65 : decode cL_isEdge 65 = .ok (.goto 5, 3) := by decide +kernel
theorem dL_isEdge_68 : decode cL_isEdge 68 = .ok (.iload 4, 2) := by decide +kernel
theorem dL_isEdge_70 : decode cL_isEdge 70 = .ok (.iload_n 1, 1) := by decide +kernel
theorem dL_isEdge_71 : decode cL_isEdge 71 = .ok (.iconst 1, 1) := by decide +kernel
theorem dL_isEdge_72 : decode cL_isEdge 72 = .ok (.if_icmp .ne 11, 3) := by decide +kernel
theorem dL_isEdge_75 : decode cL_isEdge 75 = .ok (.iload 5, 2) := by decide +kernel
theorem dL_isEdge_77 : decode cL_isEdge 77 = .ok (.iload 7, 2) := by decide +kernel
theorem dL_isEdge_79 : decode cL_isEdge 79 = .ok (.iadd, 1) := by decide +kernel
theorem dL_isEdge_80 : decode cL_isEdge 80 = .ok (.goto 5, 3) := by decide +kernel
theorem dL_isEdge_83 : decode cL_isEdge 83 = .ok (.iload 5, 2) := by decide +kernel
theorem dL_isEdge_85 : decode cL_isEdge 85 = .ok (.invokevirtual 29, 3) := by decide +kernel
theorem dL_isEdge_88 : decode cL_isEdge 88 = .ok (.istore 8, 2) := by decide +kernel
theorem dL_isEdge_90 : decode cL_isEdge 90 = .ok (.iload 8, 2) := by decide +kernel
theorem dL_isEdge_92 : decode cL_isEdge 92 = .ok (.ifCond .lt 14, 3) := by decide +kernel
theorem dL_isEdge_95 : decode cL_isEdge 95 = .ok (.iload 8, 2) := by decide +kernel
theorem dL_isEdge_97 : decode cL_isEdge 97 = .ok (.ldc 50, 2) := by decide +kernel
theorem dL_isEdge_99 : decode cL_isEdge 99 = .ok (.if_icmp .eq 7, 3) := by decide +kernel
theorem dL_isEdge_102 : decode cL_isEdge 102 = .ok (.iconst 1, 1) := by decide +kernel
theorem dL_isEdge_103 : decode cL_isEdge 103 = .ok (.goto 4, 3) := by decide +kernel
theorem dL_isEdge_106 : decode cL_isEdge 106 = .ok (.iconst 0, 1) := by decide +kernel
theorem dL_isEdge_107 : decode cL_isEdge 107 = .ok (.istore 9, 2) := by decide +kernel
theorem dL_isEdge_109 : decode cL_isEdge 109 = .ok (.iload 9, 2) := by decide +kernel
theorem dL_isEdge_111 : decode cL_isEdge 111 = .ok (.iload 6, 2) := by decide +kernel
theorem dL_isEdge_113 : decode cL_isEdge 113 = .ok (.iload_n 3, 1) := by decide +kernel
theorem dL_isEdge_114 : decode cL_isEdge 114 = .ok (.if_icmp .ne 7, 3) := by decide +kernel
theorem dL_isEdge_117 : decode cL_isEdge 117 = .ok (.iconst 1, 1) := by decide +kernel
theorem dL_isEdge_118 : decode cL_isEdge 118 = .ok (.goto 4, 3) := by decide +kernel
theorem dL_isEdge_121 : decode cL_isEdge 121 = .ok (.iconst 0, 1) := by decide +kernel
theorem dL_isEdge_122 : decode cL_isEdge 122 = .ok (.if_icmp .eq 15, 3) := by decide +kernel
theorem dL_isEdge_125 : decode cL_isEdge 125 = .ok (.iload_n 3, 1) := by decide +kernel
theorem dL_isEdge_126 : decode cL_isEdge 126 = .ok (.ifCond .lt 9, 3) := by decide +kernel
theorem dL_isEdge_129 : decode cL_isEdge 129 = .ok (.iload 6, 2) := by decide +kernel
theorem dL_isEdge_131 : decode cL_isEdge 131 = .ok (.iload_n 3, 1) := by decide +kernel
theorem dL_isEdge_132 : decode cL_isEdge 132 = .ok (.if_icmp .gt 5, 3) := by decide +kernel
theorem dL_isEdge_135 : decode cL_isEdge 135 = .ok (.iconst 0, 1) := by decide +kernel
theorem dL_isEdge_136 : decode cL_isEdge 136 = .ok (.ireturn, 1) := by decide +kernel
theorem dL_isEdge_137 : decode cL_isEdge 137 = .ok (.iinc 6 1, 3) := by decide +kernel
theorem dL_isEdge_140 : decode cL_isEdge 140 = .ok (.goto (-108), 3) := by decide +kernel
theorem dL_isEdge_143 : decode cL_isEdge 143 = .ok (.iload_n 3, 1) := by decide +kernel
theorem dL_isEdge_144 : decode cL_isEdge 144 = .ok (.bipush (-6), 2) := by decide +kernel
theorem dL_isEdge_146 : decode cL_isEdge 146 = .ok (.if_icmp .eq 14, 3) := by decide +kernel
theorem dL_isEdge_149 : decode cL_isEdge 149 = .ok (.iload_n 3, 1) := by decide +kernel
theorem dL_isEdge_150 : decode cL_isEdge 150 = .ok (.ifCond .le 14, 3) := by decide +kernel
theorem dL_isEdge_153 : decode cL_isEdge 153 = .ok (.iload_n 3, 1) := by decide +kernel
theorem dL_isEdge_154 : decode cL_isEdge 154 = .ok (.sipush 256, 3) := by decide +kernel
theorem dL_isEdge_157 : decode cL_isEdge 157 = .ok (.if_icmp .ge 7, 3) := by decide +kernel
theorem dL_isEdge_160 : decode cL_isEdge 160 = .ok (.iconst 1, 1) := by decide +kernel
theorem dL_isEdge_161 : decode cL_isEdge 161 = .ok (.goto 4, 3) := by decide +kernel
theorem dL_isEdge_164 : decode cL_isEdge 164 = .ok (.iconst 0, 1) := by decide +kernel
theorem dL_isEdge_165 : decode cL_isEdge 165 = .ok (.ireturn, 1) := by decide +kernel
theorem dL_does_0 : decode cL_does 0 = .ok (.iload_n 1, 1) := by decide +kernel
theorem dL_does_1 : decode cL_does 1 = .ok (.iconst 4, 1) := by decide +kernel
theorem dL_does_2 : decode cL_does 2 = .ok (.ishr, 1) := by decide +kernel
theorem dL_does_3 : decode cL_does 3 = .ok (.bipush 9, 2) := by decide +kernel
theorem dL_does_5 : decode cL_does 5 = .ok (.invokestatic 51, 3) := by decide +kernel
theorem dL_does_8 : decode cL_does 8 = .ok (.istore_n 3, 1) := by decide +kernel
theorem dL_does_9 : decode cL_does 9 = .ok (.aload_n 0, 1) := by decide +kernel
theorem dL_does_10 : decode cL_does 10 = .ok (.iconst 0, 1) := by decide +kernel
theorem dL_does_11 : decode cL_does 11 = .ok (.iconst 0, 1) := by decide +kernel
theorem dL_does_12 : decode cL_does 12 = .ok (.invokevirtual 14, 3) := by decide +kernel
theorem dL_does_15 : decode cL_does 15 = .ok (.bipush 16, 2) := by decide +kernel
theorem dL_does_17 : decode cL_does 17 = .ok (.idiv, 1) := by decide +kernel
theorem dL_does_18 : decode cL_does 18 = .ok (.iload_n 2, 1) := by decide +kernel
theorem dL_does_19 : decode cL_does 19 = .ok (.bipush 41, 2) := by decide +kernel
theorem dL_does_21 : decode cL_does 21 = .ok (.invokestatic 51, 3) := by decide +kernel
theorem dL_does_24 : decode cL_does 24 = .ok (.iadd, 1) := by decide +kernel
theorem dL_does_25 : decode cL_does 25 = .ok (.bipush 20, 2) := by decide +kernel
theorem dL_does_27 : decode cL_does 27 = .ok (.isub, 1) := by decide +kernel
theorem dL_does_28 : decode cL_does 28 = .ok (.istore 4, 2) := by decide +kernel
theorem dL_does_30 : decode cL_does 30 = .ok (.aload_n 0, 1) := by decide +kernel
theorem dL_does_31 : decode cL_does 31 = .ok (.iconst 1, 1) := by decide +kernel
theorem dL_does_32 : decode cL_does 32 = .ok (.iconst 0, 1) := by decide +kernel
theorem dL_does_33 : decode cL_does 33 = .ok (.invokevirtual 14, 3) := by decide +kernel
theorem dL_does_36 : decode cL_does 36 = .ok (.bipush 16, 2) := by decide +kernel
theorem dL_does_38 : decode cL_does 38 = .ok (.idiv, 1) := by decide +kernel
theorem dL_does_39 : decode cL_does 39 = .ok (.iload_n 2, 1) := by decide +kernel
theorem dL_does_40 : decode cL_does 40 = .ok (.bipush 6, 2) := by decide +kernel
theorem dL_does_42 : decode cL_does 42 = .ok (.ishr, 1) := by decide +kernel
theorem dL_does_43 : decode cL_does 43 = .ok (.bipush 41, 2) := by decide +kernel
theorem dL_does_45 : decode cL_does 45 = .ok (.invokestatic 51, 3) := by decide +kernel
theorem dL_does_48 : decode cL_does 48 = .ok (.iadd, 1) := by decide +kernel
theorem dL_does_49 : decode cL_does 49 = .ok (.bipush 20, 2) := by decide +kernel
theorem dL_does_51 : decode cL_does 51 = .ok (.isub, 1) := by decide +kernel
theorem dL_does_52 : decode cL_does 52 = .ok (.istore 5, 2) := by decide +kernel
theorem dL_does_54 : decode cL_does 54 = .ok (.aload_n 0, 1) := by decide +kernel
theorem dL_does_55 : decode cL_does 55 = .ok (.bipush 6, 2) := by decide +kernel
theorem dL_does_57 : decode cL_does 57 = .ok (.invokevirtual 8, 3) := by decide +kernel
theorem dL_does_60 : decode cL_does 60 = .ok (.iload_n 3, 1) := by decide +kernel
theorem dL_does_61 : decode cL_does 61 = .ok (.ishr, 1) := by decide +kernel
theorem dL_does_62 : decode cL_does 62 = .ok (.iconst 1, 1) := by decide +kernel
theorem dL_does_63 : decode cL_does 63 = .ok (.iand, 1) := by decide +kernel
theorem dL_does_64 : decode cL_does 64 = .ok (.iconst 1, 1) := by decide +kernel
theorem dL_does_65 : decode cL_does 65 = .ok (.if_icmp .ne 7, 3) := by decide +kernel
theorem dL_does_68 : decode cL_does 68 = .ok (.iconst 1, 1) := by decide +kernel
theorem dL_does_69 : decode cL_does 69 = .ok (.goto 4, 3) := by decide +kernel
theorem dL_does_72 : decode cL_does 72 = .ok (.iconst 0, 1) := by decide +kernel
theorem dL_does_73 : decode cL_does 73 = .ok (.istore 6, 2) := by decide +kernel
theorem dL_does_75 : decode cL_does 75 = .ok (.iload_n 1, 1) := by decide +kernel
theorem dL_does_76 : decode cL_does 76 = .ok (.bipush 18, 2) := by decide +kernel
theorem dL_does_78 : decode cL_does 78 = .ok (.invokestatic 51, 3) := by decide +kernel
theorem dL_does_81 : decode cL_does 81 = .ok (.tableswitch 714 0 8 #[51, 278, 383, 456, 554, 554, 554, 639, 639], 51) := by decide +kernel
theorem dL_does_132 : decode cL_does 132 = .ok (.iload_n 1, 1) := by decide +kernel
theorem dL_does_133 : decode cL_does 133 = .ok (.iconst 4, 1) := by decide +kernel
theorem dL_does_134 : decode cL_does 134 = .ok (.ishr, 1) := by decide +kernel
theorem dL_does_135 : decode cL_does 135 = .ok (.bipush 7, 2) := by decide +kernel
theorem dL_does_137 : decode cL_does 137 = .ok (.invokestatic 51, 3) := by decide +kernel
theorem dL_does_140 : decode cL_does 140 = .ok (.istore 7, 2) := by decide +kernel
theorem dL_does_142 : decode cL_does 142 = .ok (.iload 7, 2) := by decide +kernel
theorem dL_does_144 : decode cL_does 144 = .ok (.ifCond .ne 14, 3) := by decide +kernel
theorem dL_does_147 : decode cL_does 147 = .ok (.iconst 1, 1) := by decide +kernel
theorem dL_does_148 : decode cL_does 148 = .ok (.iload_n 2, 1) := by decide +kernel
theorem dL_does_149 : decode cL_does 149 = .ok (.bipush 64, 2) := by decide +kernel
theorem dL_does_151 : decode cL_does 151 = .ok (.invokestatic 51, 3) := by decide +kernel
theorem dL_does_154 : decode cL_does 154 = .ok (.iadd, 1) := by decide +kernel
theorem dL_does_155 : decode cL_does 155 = .ok (.goto 94, 3) := by decide +kernel
theorem dL_does_158 : decode cL_does 158 = .ok (.iload 7, 2) := by decide +kernel
theorem dL_does_160 : decode cL_does 160 = .ok (.iconst 1, 1) := by decide +kernel
theorem dL_does_161 : decode cL_does 161 = .ok (.if_icmp .ne 14, 3) := by decide +kernel
theorem dL_does_164 : decode cL_does 164 = .ok (.iconst 1, 1) := by decide +kernel
theorem dL_does_165 : decode cL_does 165 = .ok (.iload_n 2, 1) := by decide +kernel
theorem dL_does_166 : decode cL_does 166 = .ok (.bipush 30, 2) := by decide +kernel
theorem dL_does_168 : decode cL_does 168 = .ok (.invokestatic 51, 3) := by decide +kernel
theorem dL_does_171 : decode cL_does 171 = .ok (.iadd, 1) := by decide +kernel
theorem dL_does_172 : decode cL_does 172 = .ok (.goto 77, 3) := by decide +kernel
theorem dL_does_175 : decode cL_does 175 = .ok (.iload 7, 2) := by decide +kernel
theorem dL_does_177 : decode cL_does 177 = .ok (.iconst 2, 1) := by decide +kernel
theorem dL_does_178 : decode cL_does 178 = .ok (.if_icmp .ne 12, 3) := by decide +kernel
theorem dL_does_181 : decode cL_does 181 = .ok (.iload_n 2, 1) := by decide +kernel
theorem dL_does_182 : decode cL_does 182 = .ok (.bipush 21, 2) := by decide +kernel
theorem dL_does_184 : decode cL_does 184 = .ok (.invokestatic 51, 3) := by decide +kernel
theorem dL_does_187 : decode cL_does 187 = .ok (.goto 62, 3) := by decide +kernel
theorem dL_does_190 : decode cL_does 190 = .ok (.iload 7, 2) := by decide +kernel
theorem dL_does_192 : decode cL_does 192 = .ok (.iconst 3, 1) := by decide +kernel
theorem dL_does_193 : decode cL_does 193 = .ok (.if_icmp .ne 15, 3) := by decide +kernel
theorem dL_does_196 : decode cL_does 196 = .ok (.bipush 60, 2) := by decide +kernel
theorem dL_does_198 : decode cL_does 198 = .ok (.iload_n 2, 1) := by decide +kernel
theorem dL_does_199 : decode cL_does 199 = .ok (.bipush 68, 2) := by decide +kernel
theorem dL_does_201 : decode cL_does 201 = .ok (.invokestatic 51, 3) := by decide +kernel
theorem dL_does_204 : decode cL_does 204 = .ok (.iadd, 1) := by decide +kernel
theorem dL_does_205 : decode cL_does 205 = .ok (.goto 44, 3) := by decide +kernel
theorem dL_does_208 : decode cL_does 208 = .ok (.iload 7, 2) := by decide +kernel
theorem dL_does_210 : decode cL_does 210 = .ok (.iconst 4, 1) := by decide +kernel
theorem dL_does_211 : decode cL_does 211 = .ok (.if_icmp .ne 15, 3) := by decide +kernel
theorem dL_does_214 : decode cL_does 214 = .ok (.bipush 100, 2) := by decide +kernel
theorem dL_does_216 : decode cL_does 216 = .ok (.iload_n 2, 1) := by decide +kernel
theorem dL_does_217 : decode cL_does 217 = .ok (.bipush 101, 2) := by decide +kernel
theorem dL_does_219 : decode cL_does 219 = .ok (.invokestatic 51, 3) := by decide +kernel
theorem dL_does_222 : decode cL_does 222 = .ok (.iadd, 1) := by decide +kernel
theorem dL_does_223 : decode cL_does 223 = .ok (.goto 26, 3) := by decide +kernel
theorem dL_does_226 : decode cL_does 226 = .ok (.iload 7, 2) := by decide +kernel
theorem dL_does_228 : decode cL_does 228 = .ok (.iconst 5, 1) := by decide +kernel
theorem dL_does_229 : decode cL_does 229 = .ok (.if_icmp .ne 14, 3) := by decide +kernel
theorem dL_does_232 : decode cL_does 232 = .ok (.iconst 2, 1) := by decide +kernel
theorem dL_does_233 : decode cL_does 233 = .ok (.iload_n 2, 1) := by decide +kernel
theorem dL_does_234 : decode cL_does 234 = .ok (.bipush 9, 2) := by decide +kernel
theorem dL_does_236 : decode cL_does 236 = .ok (.invokestatic 51, 3) := by decide +kernel
theorem dL_does_239 : decode cL_does 239 = .ok (.iadd, 1) := by decide +kernel
theorem dL_does_240 : decode cL_does 240 = .ok (.goto 9, 3) := by decide +kernel
theorem dL_does_243 : decode cL_does 243 = .ok (.iload_n 2, 1) := by decide +kernel
theorem dL_does_244 : decode cL_does 244 = .ok (.bipush 21, 2) := by decide +kernel
theorem dL_does_246 : decode cL_does 246 = .ok (.invokestatic 51, 3) := by decide +kernel
theorem dL_does_249 : decode cL_does 249 = .ok (.istore 8, 2) := by decide +kernel
theorem dL_does_251 : decode cL_does 251 = .ok (.aload_n 0, 1) := by decide +kernel
theorem dL_does_252 : decode cL_does 252 = .ok (.bipush 10, 2) := by decide +kernel
theorem dL_does_254 : decode cL_does 254 = .ok (.iload 7, 2) := by decide +kernel
theorem dL_does_256 : decode cL_does 256 = .ok (.iadd, 1) := by decide +kernel
theorem dL_does_257 : decode cL_does 257 = .ok (.invokevirtual 8, 3) := by decide +kernel
theorem dL_does_260 : decode cL_does 260 = .ok (.istore 9, 2) := by decide +kernel
theorem dL_does_262 : decode cL_does 262 = .ok (.aload_n 0, 1) := by decide +kernel
theorem dL_does_263 : decode cL_does 263 = .ok (.iconst 1, 1) := by decide +kernel
theorem dL_does_264 : decode cL_does 264 = .ok (.invokevirtual 8, 3) := by decide +kernel
theorem dL_does_267 : decode cL_does 267 = .ok (.istore 10, 2) := by decide +kernel
theorem dL_does_269 : decode cL_does 269 = .ok (.aload_n 0, 1) := by decide +kernel
theorem dL_does_270 : decode cL_does 270 = .ok (.iload 7, 2) := by decide +kernel
theorem dL_does_272 : decode cL_does 272 = .ok (.iload 8, 2) := by decide +kernel
theorem dL_does_274 : decode cL_does 274 = .ok (.invokevirtual 54, 3) := by decide +kernel
theorem dL_does_277 : decode cL_does 277 = .ok (.iload 9, 2) := by decide +kernel
theorem dL_does_279 : decode cL_does 279 = .ok (.if_icmp .ne 78, 3) := by decide +kernel
theorem dL_does_282 : decode cL_does 282 = .ok (.aload_n 0, 1) := by decide +kernel
theorem dL_does_283 : decode cL_does 283 = .ok (.bipush 10, 2) := by decide +kernel
theorem dL_does_285 : decode cL_does 285 = .ok (.iload 7, 2) := by decide +kernel
theorem dL_does_287 : decode cL_does 287 = .ok (.iadd, 1) := by decide +kernel
theorem dL_does_288 : decode cL_does 288 = .ok (.invokevirtual 8, 3) := by decide +kernel
theorem dL_does_291 : decode cL_does 291 = .ok (.iload 8, 2) := by decide +kernel
theorem dL_does_293 : decode cL_does 293 = .ok (.if_icmp .ne 64, 3) := by decide +kernel
theorem dL_does_296 : decode cL_does 296 = .ok (.aload_n 0, 1) := by decide +kernel
theorem dL_does_297 : decode cL_does 297 = .ok (.iconst 1, 1) := by decide +kernel
theorem dL_does_298 : decode cL_does 298 = .ok (.invokevirtual 8, 3) := by decide +kernel
theorem dL_does_301 : decode cL_does 301 = .ok (.iload 7, 2) := by decide +kernel
theorem dL_does_303 : decode cL_does 303 = .ok (.iconst 1, 1) := by decide +kernel
theorem dL_does_304 : decode cL_does 304 = .ok (.if_icmp .eq 9, 3) := by decide +kernel
theorem dL_does_307 : decode cL_does 307 = .ok (.iload 7, 2) := by decide +kernel
theorem dL_does_309 : decode cL_does 309 = .ok (.iconst 2, 1) := by decide +kernel
theorem dL_does_310 : decode cL_does 310 = .ok (.if_icmp .ne 12, 3) := by decide +kernel
theorem dL_does_313 : decode cL_does 313 = .ok (.aload_n 0, 1) := by decide +kernel
theorem dL_does_314 : decode cL_does 314 = .ok (.bipush 11, 2) := by decide +kernel
theorem dL_does_316 : decode cL_does 316 = .ok (.invokevirtual 8, 3) := by decide +kernel
theorem dL_does_319 : decode cL_does 319 = .ok (.goto 5, 3) := by decide +kernel
theorem dL_does_322 : decode cL_does 322 = .ok (.iload 10, 2) := by decide +kernel
theorem dL_does_324 : decode cL_does 324 = .ok (.if_icmp .ne 33, 3) := by decide +kernel
theorem dL_does_327 : decode cL_does 327 = .ok (.aload_n 0, 1) := by decide +kernel
theorem dL_does_328 : decode cL_does 328 = .ok (.iload_n 2, 1) := by decide +kernel
theorem dL_does_329 : decode cL_does 329 = .ok (.iconst 3, 1) := by decide +kernel
theorem dL_does_330 : decode cL_does 330 = .ok (.ishr, 1) := by decide +kernel
theorem dL_does_331 : decode cL_does 331 = .ok (.sipush 256, 3) := by decide +kernel
theorem dL_does_334 : decode cL_does 334 = .ok (.invokestatic 51, 3) := by decide +kernel
theorem dL_does_337 : decode cL_does 337 = .ok (.iload_n 2, 1) := by decide +kernel
theorem dL_does_338 : decode cL_does 338 = .ok (.bipush 11, 2) := by decide +kernel
theorem dL_does_340 : decode cL_does 340 = .ok (.ishr, 1) := by decide +kernel
theorem dL_does_341 : decode cL_does 341 = .ok (.sipush 256, 3) := by decide +kernel
theorem dL_does_344 : decode cL_does 344 = .ok (.invokestatic 51, 3) := by decide +kernel
theorem dL_does_347 : decode cL_does 347 = .ok (.invokestatic 57, 3) := by decide +kernel
theorem dL_does_350 : decode cL_does 350 = .ok (.ifCond .eq 7, 3) := by decide +kernel
theorem dL_does_353 : decode cL_does 353 = .ok (.iconst 1, 1) := by decide +kernel
theorem dL_does_354 : decode cL_does 354 = .ok (.goto 4, 3) := by decide +kernel
theorem dL_does_357 : decode cL_does 357 = .ok (.iconst 0, 1) := by decide +kernel
theorem dL_does_358 : decode cL_does 358 = .ok (.ireturn, 1) := by decide +kernel
theorem dL_does_359 : decode cL_does 359 = .ok (.aload_n 0, 1) := by decide +kernel
theorem dL_does_360 : decode cL_does 360 = .ok (.iconst 3, 1) := by decide +kernel
theorem dL_does_361 : decode cL_does 361 = .ok (.invokevirtual 8, 3) := by decide +kernel
theorem dL_does_364 : decode cL_does 364 = .ok (.istore 11, 2) := by decide +kernel
theorem dL_does_366 : decode cL_does 366 = .ok (.aload_n 0, 1) := by decide +kernel
theorem dL_does_367 : decode cL_does 367 = .ok (.iload_n 3, 1) := by decide +kernel
theorem dL_does_368 : decode cL_does 368 = .ok (.invokevirtual 61, 3) := by decide +kernel
theorem dL_does_371 : decode cL_does 371 = .ok (.istore 12, 2) := by decide +kernel
theorem dL_does_373 : decode cL_does 373 = .ok (.iload_n 3, 1) := by decide +kernel
theorem dL_does_374 : decode cL_does 374 = .ok (.bipush 7, 2) := by decide +kernel
theorem dL_does_376 : decode cL_does 376 = .ok (.if_icmp .le 17, 3) := by decide +kernel
theorem dL_does_379 : decode cL_does 379 = .ok (.iload 12, 2) := by decide +kernel
theorem dL_does_381 : decode cL_does 381 = .ok (.iconst (-1), 1) := by decide +kernel
theorem dL_does_382 : decode cL_does 382 = .ok (.if_icmp .ne 7, 3) := by decide +kernel
theorem dL_does_385 : decode cL_does 385 = .ok (.iconst 1, 1) := by decide +kernel
theorem dL_does_386 : decode cL_does 386 = .ok (.goto 77, 3) := by decide +kernel
theorem dL_does_389 : decode cL_does 389 = .ok (.iconst 0, 1) := by decide +kernel
theorem dL_does_390 : decode cL_does 390 = .ok (.goto 73, 3) := by decide +kernel
theorem dL_does_393 : decode cL_does 393 = .ok (.iload 6, 2) := by decide +kernel
theorem dL_does_395 : decode cL_does 395 = .ok (.ifCond .eq 28, 3) := by decide +kernel
theorem dL_does_398 : decode cL_does 398 = .ok (.iload 12, 2) := by decide +kernel
theorem dL_does_400 : decode cL_does 400 = .ok (.bipush (-5), 2) := by decide +kernel
theorem dL_does_402 : decode cL_does 402 = .ok (.if_icmp .ne 17, 3) := by decide +kernel
theorem dL_does_405 : decode cL_does 405 = .ok (.aload_n 0, 1) := by decide +kernel
theorem dL_does_406 : decode cL_does 406 = .ok (.iconst 3, 1) := by decide +kernel
theorem dL_does_407 : decode cL_does 407 = .ok (.invokevirtual 8, 3) := by decide +kernel
theorem dL_does_410 : decode cL_does 410 = .ok (.iload 11, 2) := by decide +kernel
theorem dL_does_412 : decode cL_does 412 = .ok (.if_icmp .ne 7, 3) := by decide +kernel
theorem dL_does_415 : decode cL_does 415 = .ok (.iconst 1, 1) := by decide +kernel
theorem dL_does_416 : decode cL_does 416 = .ok (.goto 47, 3) := by decide +kernel
theorem dL_does_419 : decode cL_does 419 = .ok (.iconst 0, 1) := by decide +kernel
theorem dL_does_420 : decode cL_does 420 = .ok (.goto 43, 3) := by decide +kernel
theorem dL_does_423 : decode cL_does 423 = .ok (.iload 12, 2) := by decide +kernel
theorem dL_does_425 : decode cL_does 425 = .ok (.aload_n 0, 1) := by decide +kernel
theorem dL_does_426 : decode cL_does 426 = .ok (.bipush 6, 2) := by decide +kernel
theorem dL_does_428 : decode cL_does 428 = .ok (.invokevirtual 8, 3) := by decide +kernel
theorem dL_does_431 : decode cL_does 431 = .ok (.if_icmp .ne 31, 3) := by decide +kernel
theorem dL_does_434 : decode cL_does 434 = .ok (.iload 12, 2) := by decide +kernel
theorem dL_does_436 : decode cL_does 436 = .ok (.iload_n 3, 1) := by decide +kernel
theorem dL_does_437 : decode cL_does 437 = .ok (.ishr, 1) := by decide +kernel
theorem dL_does_438 : decode cL_does 438 = .ok (.iconst 1, 1) := by decide +kernel
theorem dL_does_439 : decode cL_does 439 = .ok (.iand, 1) := by decide +kernel
theorem dL_does_440 : decode cL_does 440 = .ok (.iconst 1, 1) := by decide +kernel
theorem dL_does_441 : decode cL_does 441 = .ok (.if_icmp .ne 21, 3) := by decide +kernel
theorem dL_does_444 : decode cL_does 444 = .ok (.aload_n 0, 1) := by decide +kernel
theorem dL_does_445 : decode cL_does 445 = .ok (.iconst 3, 1) := by decide +kernel
theorem dL_does_446 : decode cL_does 446 = .ok (.invokevirtual 8, 3) := by decide +kernel
theorem dL_does_449 : decode cL_does 449 = .ok (.aload_n 0, 1) := by decide +kernel
theorem dL_does_450 : decode cL_does 450 = .ok (.bipush 16, 2) := by decide +kernel
theorem dL_does_452 : decode cL_does 452 = .ok (.invokevirtual 8, 3) := by decide +kernel
theorem dL_does_455 : decode cL_does 455 = .ok (.if_icmp .ne 7, 3) := by decide +kernel
theorem dL_does_458 : decode cL_does 458 = .ok (.iconst 1, 1) := by decide +kernel
theorem dL_does_459 : decode cL_does 459 = .ok (.goto 4, 3) := by decide +kernel
theorem dL_does_462 : decode cL_does 462 = .ok (.iconst 0, 1) := by decide +kernel
theorem dL_does_463 : decode cL_does 463 = .ok (.ireturn, 1) := by decide +kernel
theorem dL_does_464 : decode cL_does 464 = .ok (.aload_n 0, 1) := by decide +kernel
theorem dL_does_465 : decode cL_does 465 = .ok (.iload_n 3, 1) := by decide +kernel
theorem dL_does_466 : decode cL_does 466 = .ok (.invokevirtual 64, 3) := by decide +kernel
theorem dL_does_469 : decode cL_does 469 = .ok (.istore 13, 2) := by decide +kernel
theorem dL_does_471 : decode cL_does 471 = .ok (.iload_n 3, 1) := by decide +kernel
theorem dL_does_472 : decode cL_does 472 = .ok (.bipush 7, 2) := by decide +kernel
theorem dL_does_474 : decode cL_does 474 = .ok (.if_icmp .le 17, 3) := by decide +kernel
theorem dL_does_477 : decode cL_does 477 = .ok (.iload 13, 2) := by decide +kernel
theorem dL_does_479 : decode cL_does 479 = .ok (.iconst (-1), 1) := by decide +kernel
theorem dL_does_480 : decode cL_does 480 = .ok (.if_icmp .ne 7, 3) := by decide +kernel
theorem dL_does_483 : decode cL_does 483 = .ok (.iconst 1, 1) := by decide +kernel
theorem dL_does_484 : decode cL_does 484 = .ok (.goto 52, 3) := by decide +kernel
theorem dL_does_487 : decode cL_does 487 = .ok (.iconst 0, 1) := by decide +kernel
theorem dL_does_488 : decode cL_does 488 = .ok (.goto 48, 3) := by decide +kernel
theorem dL_does_491 : decode cL_does 491 = .ok (.iload 6, 2) := by decide +kernel
theorem dL_does_493 : decode cL_does 493 = .ok (.ifCond .eq 31, 3) := by decide +kernel
theorem dL_does_496 : decode cL_does 496 = .ok (.iload 13, 2) := by decide +kernel
theorem dL_does_498 : decode cL_does 498 = .ok (.aload_n 0, 1) := by decide +kernel
theorem dL_does_499 : decode cL_does 499 = .ok (.bipush 6, 2) := by decide +kernel
theorem dL_does_501 : decode cL_does 501 = .ok (.invokevirtual 8, 3) := by decide +kernel
theorem dL_does_504 : decode cL_does 504 = .ok (.if_icmp .ne 16, 3) := by decide +kernel
theorem dL_does_507 : decode cL_does 507 = .ok (.iload 13, 2) := by decide +kernel
theorem dL_does_509 : decode cL_does 509 = .ok (.iload_n 3, 1) := by decide +kernel
theorem dL_does_510 : decode cL_does 510 = .ok (.ishr, 1) := by decide +kernel
theorem dL_does_511 : decode cL_does 511 = .ok (.iconst 1, 1) := by decide +kernel
theorem dL_does_512 : decode cL_does 512 = .ok (.iand, 1) := by decide +kernel
theorem dL_does_513 : decode cL_does 513 = .ok (.ifCond .ne 7, 3) := by decide +kernel
theorem dL_does_516 : decode cL_does 516 = .ok (.iconst 1, 1) := by decide +kernel
theorem dL_does_517 : decode cL_does 517 = .ok (.goto 19, 3) := by decide +kernel
theorem dL_does_520 : decode cL_does 520 = .ok (.iconst 0, 1) := by decide +kernel
theorem dL_does_521 : decode cL_does 521 = .ok (.goto 15, 3) := by decide +kernel
theorem dL_does_524 : decode cL_does 524 = .ok (.iload 13, 2) := by decide +kernel
theorem dL_does_526 : decode cL_does 526 = .ok (.bipush (-5), 2) := by decide +kernel
theorem dL_does_528 : decode cL_does 528 = .ok (.if_icmp .ne 7, 3) := by decide +kernel
theorem dL_does_531 : decode cL_does 531 = .ok (.iconst 1, 1) := by decide +kernel
theorem dL_does_532 : decode cL_does 532 = .ok (.goto 4, 3) := by decide +kernel
theorem dL_does_535 : decode cL_does 535 = .ok (.iconst 0, 1) := by decide +kernel
theorem dL_does_536 : decode cL_does 536 = .ok (.ireturn, 1) := by decide +kernel
theorem dL_does_537 : decode cL_does 537 = .ok (.aload_n 0, 1) := by decide +kernel
theorem dL_does_538 : decode cL_does 538 = .ok (.iconst 0, 1) := by decide +kernel
theorem dL_does_539 : decode cL_does 539 = .ok (.iconst 0, 1) := by decide +kernel
theorem dL_does_540 : decode cL_does 540 = .ok (.invokevirtual 14, 3) := by decide +kernel
theorem dL_does_543 : decode cL_does 543 = .ok (.sipush 2048, 3) := by decide +kernel
theorem dL_does_546 : decode cL_does 546 = .ok (.isub, 1) := by decide +kernel
theorem dL_does_547 : decode cL_does 547 = .ok (.invokestatic 18, 3) := by decide +kernel
theorem dL_does_550 : decode cL_does 550 = .ok (.aload_n 0, 1) := by decide +kernel
theorem dL_does_551 : decode cL_does 551 = .ok (.iconst 1, 1) := by decide +kernel
theorem dL_does_552 : decode cL_does 552 = .ok (.iconst 0, 1) := by decide +kernel
theorem dL_does_553 : decode cL_does 553 = .ok (.invokevirtual 14, 3) := by decide +kernel
theorem dL_does_556 : decode cL_does 556 = .ok (.sipush 2048, 3) := by decide +kernel
theorem dL_does_559 : decode cL_does 559 = .ok (.isub, 1) := by decide +kernel
theorem dL_does_560 : decode cL_does 560 = .ok (.invokestatic 18, 3) := by decide +kernel
theorem dL_does_563 : decode cL_does 563 = .ok (.iadd, 1) := by decide +kernel
theorem dL_does_564 : decode cL_does 564 = .ok (.istore 14, 2) := by decide +kernel
theorem dL_does_566 : decode cL_does 566 = .ok (.iload_n 1, 1) := by decide +kernel
theorem dL_does_567 : decode cL_does 567 = .ok (.iconst 4, 1) := by decide +kernel
theorem dL_does_568 : decode cL_does 568 = .ok (.ishr, 1) := by decide +kernel
theorem dL_does_569 : decode cL_does 569 = .ok (.iconst 3, 1) := by decide +kernel
theorem dL_does_570 : decode cL_does 570 = .ok (.iand, 1) := by decide +kernel
theorem dL_does_571 : decode cL_does 571 = .ok (.ifCond .ne 58, 3) := by decide +kernel
theorem dL_does_574 : decode cL_does 574 = .ok (.aload_n 0, 1) := by decide +kernel
theorem dL_does_575 : decode cL_does 575 = .ok (.invokevirtual 67, 3) := by decide +kernel
theorem dL_does_578 : decode cL_does 578 = .ok (.iload 14, 2) := by decide +kernel
theorem dL_does_580 : decode cL_does 580 = .ok (.if_icmp .ne 53, 3) := by decide +kernel
theorem dL_does_583 : decode cL_does 583 = .ok (.aload_n 0, 1) := by decide +kernel
theorem dL_does_584 : decode cL_does 584 = .ok (.iconst 0, 1) := by decide +kernel
theorem dL_does_585 : decode cL_does 585 = .ok (.iconst 0, 1) := by decide +kernel
theorem dL_does_586 : decode cL_does 586 = .ok (.invokevirtual 14, 3) := by decide +kernel
theorem dL_does_589 : decode cL_does 589 = .ok (.sipush 2048, 3) := by decide +kernel
theorem dL_does_592 : decode cL_does 592 = .ok (.if_icmp .ne 41, 3) := by decide +kernel
theorem dL_does_595 : decode cL_does 595 = .ok (.aload_n 0, 1) := by decide +kernel
theorem dL_does_596 : decode cL_does 596 = .ok (.iconst 1, 1) := by decide +kernel
theorem dL_does_597 : decode cL_does 597 = .ok (.iconst 0, 1) := by decide +kernel
theorem dL_does_598 : decode cL_does 598 = .ok (.invokevirtual 14, 3) := by decide +kernel
theorem dL_does_601 : decode cL_does 601 = .ok (.sipush 2048, 3) := by decide +kernel
theorem dL_does_604 : decode cL_does 604 = .ok (.if_icmp .ne 29, 3) := by decide +kernel
theorem dL_does_607 : decode cL_does 607 = .ok (.aload_n 0, 1) := by decide +kernel
theorem dL_does_608 : decode cL_does 608 = .ok (.iconst 1, 1) := by decide +kernel
theorem dL_does_609 : decode cL_does 609 = .ok (.invokevirtual 8, 3) := by decide +kernel
theorem dL_does_612 : decode cL_does 612 = .ok (.aload_n 0, 1) := by decide +kernel
theorem dL_does_613 : decode cL_does 613 = .ok (.bipush 11, 2) := by decide +kernel
theorem dL_does_615 : decode cL_does 615 = .ok (.invokevirtual 8, 3) := by decide +kernel
theorem dL_does_618 : decode cL_does 618 = .ok (.if_icmp .ne 15, 3) := by decide +kernel
theorem dL_does_621 : decode cL_does 621 = .ok (.aload_n 0, 1) := by decide +kernel
theorem dL_does_622 : decode cL_does 622 = .ok (.iconst 2, 1) := by decide +kernel
theorem dL_does_623 : decode cL_does 623 = .ok (.invokevirtual 8, 3) := by decide +kernel
theorem dL_does_626 : decode cL_does 626 = .ok (.ifCond .ne 7, 3) := by decide +kernel
theorem dL_does_629 : decode cL_does 629 = .ok (.iconst 1, 1) := by decide +kernel
theorem dL_does_630 : decode cL_does 630 = .ok (.goto 4, 3) := by decide +kernel
theorem dL_does_633 : decode cL_does 633 = .ok (.iconst 0, 1) := by decide +kernel
theorem dL_does_634 : decode cL_does 634 = .ok (.ireturn, 1) := by decide +kernel
theorem dL_does_635 : decode cL_does 635 = .ok (.aload_n 0, 1) := by decide +kernel
theorem dL_does_636 : decode cL_does 636 = .ok (.iconst 0, 1) := by decide +kernel
theorem dL_does_637 : decode cL_does 637 = .ok (.invokevirtual 8, 3) := by decide +kernel
theorem dL_does_640 : decode cL_does 640 = .ok (.istore 15, 2) := by decide +kernel
theorem dL_does_642 : decode cL_does 642 = .ok (.iconst 1, 1) := by decide +kernel
theorem dL_does_643 : decode cL_does 643 = .ok (.iload_n 1, 1) := by decide +kernel
theorem dL_does_644 : decode cL_does 644 = .ok (.iconst 4, 1) := by decide +kernel
theorem dL_does_645 : decode cL_does 645 = .ok (.ishr, 1) := by decide +kernel
theorem dL_does_646 : decode cL_does 646 = .ok (.bipush 15, 2) := by decide +kernel
theorem dL_does_648 : decode cL_does 648 = .ok (.invokestatic 51, 3) := by decide +kernel
theorem dL_does_651 : decode cL_does 651 = .ok (.iadd, 1) := by decide +kernel
theorem dL_does_652 : decode cL_does 652 = .ok (.istore 16, 2) := by decide +kernel
theorem dL_does_654 : decode cL_does 654 = .ok (.aload_n 0, 1) := by decide +kernel
theorem dL_does_655 : decode cL_does 655 = .ok (.iload_n 2, 1) := by decide +kernel
theorem dL_does_656 : decode cL_does 656 = .ok (.sipush 256, 3) := by decide +kernel
theorem dL_does_659 : decode cL_does 659 = .ok (.invokestatic 51, 3) := by decide +kernel
theorem dL_does_662 : decode cL_does 662 = .ok (.iload_n 2, 1) := by decide +kernel
theorem dL_does_663 : decode cL_does 663 = .ok (.bipush 8, 2) := by decide +kernel
theorem dL_does_665 : decode cL_does 665 = .ok (.ishr, 1) := by decide +kernel
theorem dL_does_666 : decode cL_does 666 = .ok (.sipush 256, 3) := by decide +kernel
theorem dL_does_669 : decode cL_does 669 = .ok (.invokestatic 51, 3) := by decide +kernel
theorem dL_does_672 : decode cL_does 672 = .ok (.iload 16, 2) := by decide +kernel
theorem dL_does_674 : decode cL_does 674 = .ok (.invokevirtual 71, 3) := by decide +kernel
theorem dL_does_677 : decode cL_does 677 = .ok (.istore 17, 2) := by decide +kernel
theorem dL_does_679 : decode cL_does 679 = .ok (.iload 17, 2) := by decide +kernel
theorem dL_does_681 : decode cL_does 681 = .ok (.sipush 1000, 3) := by decide +kernel
theorem dL_does_684 : decode cL_does 684 = .ok (.aload_n 0, 1) := by decide +kernel
theorem dL_does_685 : decode cL_does 685 = .ok (.iconst 0, 1) := by decide +kernel
theorem dL_does_686 : decode cL_does 686 = .ok (.iconst 1, 1) := by decide +kernel
theorem dL_does_687 : decode cL_does 687 = .ok (.invokevirtual 14, 3) := by decide +kernel
theorem dL_does_690 : decode cL_does 690 = .ok (.imul, 1) := by decide +kernel
theorem dL_does_691 : decode cL_does 691 = .ok (.aload_n 0, 1) := by decide +kernel
theorem dL_does_692 : decode cL_does 692 = .ok (.iconst 1, 1) := by decide +kernel
theorem dL_does_693 : decode cL_does 693 = .ok (.iconst 1, 1) := by decide +kernel
theorem dL_does_694 : decode cL_does 694 = .ok (.invokevirtual 14, 3) := by decide +kernel
theorem dL_does_697 : decode cL_does 697 = .ok (.iadd, 1) := by decide +kernel
theorem dL_does_698 : decode cL_does 698 = .ok (.if_icmp .ne 20, 3) := by decide +kernel
theorem dL_does_701 : decode cL_does 701 = .ok (.aload_n 0, 1) := by decide +kernel
theorem dL_does_702 : decode cL_does 702 = .ok (.iconst 0, 1) := by decide +kernel
theorem dL_does_703 : decode cL_does 703 = .ok (.invokevirtual 8, 3) := by decide +kernel
theorem dL_does_706 : decode cL_does 706 = .ok (.iload 15, 2) := by decide +kernel
theorem dL_does_708 : decode cL_does 708 = .ok (.iload 16, 2) := by decide +kernel
theorem dL_does_710 : decode cL_does 710 = .ok (.iadd, 1) := by decide +kernel
theorem dL_does_711 : decode cL_does 711 = .ok (.if_icmp .ne 7, 3) := by decide +kernel
theorem dL_does_714 : decode cL_does 714 = .ok (.iconst 1, 1) := by decide +kernel
theorem dL_does_715 : decode cL_does 715 = .ok (.goto 4, 3) := by decide +kernel
theorem dL_does_718 : decode cL_does 718 = .ok (.iconst 0, 1) := by decide +kernel
theorem dL_does_719 : decode cL_does 719 = .ok (.ireturn, 1) := by decide +kernel
theorem dL_does_720 : decode cL_does 720 = .ok (.aload_n 0, 1) := by decide +kernel
theorem dL_does_721 : decode cL_does 721 = .ok (.iconst 0, 1) := by decide +kernel
theorem dL_does_722 : decode cL_does 722 = .ok (.iconst 2, 1) := by decide +kernel
theorem dL_does_723 : decode cL_does 723 = .ok (.invokevirtual 14, 3) := by decide +kernel
theorem dL_does_726 : decode cL_does 726 = .ok (.istore 18, 2) := by decide +kernel
theorem dL_does_728 : decode cL_does 728 = .ok (.aload_n 0, 1) := by decide +kernel
theorem dL_does_729 : decode cL_does 729 = .ok (.iconst 1, 1) := by decide +kernel
theorem dL_does_730 : decode cL_does 730 = .ok (.iconst 2, 1) := by decide +kernel
theorem dL_does_731 : decode cL_does 731 = .ok (.invokevirtual 14, 3) := by decide +kernel
theorem dL_does_734 : decode cL_does 734 = .ok (.istore 19, 2) := by decide +kernel
theorem dL_does_736 : decode cL_does 736 = .ok (.aload_n 0, 1) := by decide +kernel
theorem dL_does_737 : decode cL_does 737 = .ok (.iconst 0, 1) := by decide +kernel
theorem dL_does_738 : decode cL_does 738 = .ok (.invokevirtual 8, 3) := by decide +kernel
theorem dL_does_741 : decode cL_does 741 = .ok (.ifCond .eq 48, 3) := by decide +kernel
theorem dL_does_744 : decode cL_does 744 = .ok (.iload 18, 2) := by decide +kernel
theorem dL_does_746 : decode cL_does 746 = .ok (.iconst 1, 1) := by decide +kernel
theorem dL_does_747 : decode cL_does 747 = .ok (.iadd, 1) := by decide +kernel
theorem dL_does_748 : decode cL_does 748 = .ok (.sipush 255, 3) := by decide +kernel
theorem dL_does_751 : decode cL_does 751 = .ok (.if_icmp .gt 38, 3) := by decide +kernel
theorem dL_does_754 : decode cL_does 754 = .ok (.aload_n 0, 1) := by decide +kernel
theorem dL_does_755 : decode cL_does 755 = .ok (.iload 18, 2) := by decide +kernel
theorem dL_does_757 : decode cL_does 757 = .ok (.iload 19, 2) := by decide +kernel
theorem dL_does_759 : decode cL_does 759 = .ok (.invokestatic 57, 3) := by decide +kernel
theorem dL_does_762 : decode cL_does 762 = .ok (.ifCond .eq 31, 3) := by decide +kernel
theorem dL_does_765 : decode cL_does 765 = .ok (.aload_n 0, 1) := by decide +kernel
theorem dL_does_766 : decode cL_does 766 = .ok (.iload 18, 2) := by decide +kernel
theorem dL_does_768 : decode cL_does 768 = .ok (.iconst 1, 1) := by decide +kernel
theorem dL_does_769 : decode cL_does 769 = .ok (.iadd, 1) := by decide +kernel
theorem dL_does_770 : decode cL_does 770 = .ok (.iload 19, 2) := by decide +kernel
theorem dL_does_772 : decode cL_does 772 = .ok (.invokestatic 57, 3) := by decide +kernel
theorem dL_does_775 : decode cL_does 775 = .ok (.ifCond .eq 18, 3) := by decide +kernel
theorem dL_does_778 : decode cL_does 778 = .ok (.aload_n 0, 1) := by decide +kernel
theorem dL_does_779 : decode cL_does 779 = .ok (.iload 18, 2) := by decide +kernel
theorem dL_does_781 : decode cL_does 781 = .ok (.iload 19, 2) := by decide +kernel
theorem dL_does_783 : decode cL_does 783 = .ok (.invokestatic 57, 3) := by decide +kernel
theorem dL_does_786 : decode cL_does 786 = .ok (.ifCond .eq 7, 3) := by decide +kernel
theorem dL_does_789 : decode cL_does 789 = .ok (.iconst 1, 1) := by decide +kernel
theorem dL_does_790 : decode cL_does 790 = .ok (.goto 4, 3) := by decide +kernel
theorem dL_does_793 : decode cL_does 793 = .ok (.iconst 0, 1) := by decide +kernel
theorem dL_does_794 : decode cL_does 794 = .ok (.ireturn, 1) := by decide +kernel
theorem dL_does_795 : decode cL_does 795 = .ok (.aload_n 0, 1) := by decide +kernel
theorem dL_does_796 : decode cL_does 796 = .ok (.iload 4, 2) := by decide +kernel
theorem dL_does_798 : decode cL_does 798 = .ok (.ifCond .ge 7, 3) := by decide +kernel
theorem dL_does_801 : decode cL_does 801 = .ok (.iconst 0, 1) := by decide +kernel
theorem dL_does_802 : decode cL_does 802 = .ok (.goto 19, 3) := by decide +kernel
theorem dL_does_805 : decode cL_does 805 = .ok (.iload 4, 2) := by decide +kernel
theorem dL_does_807 : decode cL_does 807 = .ok (.sipush 255, 3) := by decide +kernel
theorem dL_does_810 : decode cL_does 810 = .ok (.if_icmp .le 9, 3) := by decide +kernel
theorem dL_does_813 : decode cL_does 813 = .ok (.sipush 255, 3) := by decide +kernel
theorem dL_does_816 : decode cL_does 816 = .ok (.goto 5, 3) := by decide +kernel
theorem dL_does_819 : decode cL_does 819 = .ok (.iload 4, 2) := by decide +kernel
theorem dL_does_821 : decode cL_does 821 = .ok (.iload 5, 2) := by decide +kernel
theorem dL_does_823 : decode cL_does 823 = .ok (.ifCond .ge 7, 3) := by decide +kernel
theorem dL_does_826 : decode cL_does 826 = .ok (.iconst 0, 1) := by decide +kernel
theorem dL_does_827 : decode cL_does 827 = .ok (.goto 19, 3) := by decide +kernel
theorem dL_does_830 : decode cL_does 830 = .ok (.iload 5, 2) := by decide +kernel
theorem dL_does_832 : decode cL_does 832 = .ok (.sipush 255, 3) := by decide +kernel
theorem dL_does_835 : decode cL_does 835 = .ok (.if_icmp .le 9, 3) := by decide +kernel
theorem dL_does_838 : decode cL_does 838 = .ok (.sipush 255, 3) := by decide +kernel
theorem dL_does_841 : decode cL_does 841 = .ok (.goto 5, 3) := by decide +kernel
theorem dL_does_844 : decode cL_does 844 = .ok (.iload 5, 2) := by decide +kernel
theorem dL_does_846 : decode cL_does 846 = .ok (.invokestatic 57, 3) := by decide +kernel
theorem dL_does_849 : decode cL_does 849 = .ok (.ireturn, 1) := by decide +kernel
theorem dL_law_0 : decode cL_law 0 = .ok (.new 9, 3) := by decide +kernel
theorem dL_law_3 : decode cL_law 3 = .ok (.dup, 1) := by decide +kernel
theorem dL_law_4 : decode cL_law 4 = .ok (.invokespecial 75, 3) := by decide +kernel
theorem dL_law_7 : decode cL_law 7 = .ok (.astore_n 1, 1) := by decide +kernel
theorem dL_law_8 : decode cL_law 8 = .ok (.aload_n 1, 1) := by decide +kernel
theorem dL_law_9 : decode cL_law 9 = .ok (.invokestatic 76, 3) := by decide +kernel
theorem dL_law_12 : decode cL_law 12 = .ok (.ifCond .eq 50, 3) := by decide +kernel
theorem dL_law_15 : decode cL_law 15 = .ok (.aload_n 1, 1) := by decide +kernel
theorem dL_law_16 : decode cL_law 16 = .ok (.sipush 128, 3) := by decide +kernel
theorem dL_law_19 : decode cL_law 19 = .ok (.sipush 128, 3) := by decide +kernel
theorem dL_law_22 : decode cL_law 22 = .ok (.invokevirtual 29, 3) := by decide +kernel
theorem dL_law_25 : decode cL_law 25 = .ok (.ldc 50, 2) := by decide +kernel
theorem dL_law_27 : decode cL_law 27 = .ok (.if_icmp .ne 35, 3) := by decide +kernel
theorem dL_law_30 : decode cL_law 30 = .ok (.aload_n 1, 1) := by decide +kernel
theorem dL_law_31 : decode cL_law 31 = .ok (.sipush 128, 3) := by decide +kernel
theorem dL_law_34 : decode cL_law 34 = .ok (.sipush 128, 3) := by decide +kernel
theorem dL_law_37 : decode cL_law 37 = .ok (.invokevirtual 35, 3) := by decide +kernel
theorem dL_law_40 : decode cL_law 40 = .ok (.ifCond .ne 22, 3) := by decide +kernel
theorem dL_law_43 : decode cL_law 43 = .ok (.aload_n 1, 1) := by decide +kernel
theorem dL_law_44 : decode cL_law 44 = .ok (.invokevirtual 80, 3) := by decide +kernel
theorem dL_law_47 : decode cL_law 47 = .ok (.bipush (-5), 2) := by decide +kernel
theorem dL_law_49 : decode cL_law 49 = .ok (.if_icmp .ne 13, 3) := by decide +kernel
theorem dL_law_52 : decode cL_law 52 = .ok (.aload_n 1, 1) := by decide +kernel
theorem dL_law_53 : decode cL_law 53 = .ok (.iconst 0, 1) := by decide +kernel
theorem dL_law_54 : decode cL_law 54 = .ok (.iconst 0, 1) := by decide +kernel
theorem dL_law_55 : decode cL_law 55 = .ok (.invokevirtual 23, 3) := by decide +kernel
theorem dL_law_58 : decode cL_law 58 = .ok (.iconst (-1), 1) := by decide +kernel
theorem dL_law_59 : decode cL_law 59 = .ok (.if_icmp .eq 5, 3) := by decide +kernel
theorem dL_law_62 : decode cL_law 62 = .ok (.iconst 0, 1) := by decide +kernel
theorem dL_law_63 : decode cL_law 63 = .ok (.ireturn, 1) := by decide +kernel
theorem dL_law_64 : decode cL_law 64 = .ok (.iconst 0, 1) := by decide +kernel
theorem dL_law_65 : decode cL_law 65 = .ok (.istore_n 2, 1) := by decide +kernel
theorem dL_law_66 : decode cL_law 66 = .ok (.iload_n 2, 1) := by decide +kernel
theorem dL_law_67 : decode cL_law 67 = .ok (.bipush 90, 2) := by decide +kernel
theorem dL_law_69 : decode cL_law 69 = .ok (.if_icmp .ge 182, 3) := by decide +kernel
theorem dL_law_72 : decode cL_law 72 = .ok (.aload_n 0, 1) := by decide +kernel
theorem dL_law_73 : decode cL_law 73 = .ok (.iconst 2, 1) := by decide +kernel
theorem dL_law_74 : decode cL_law 74 = .ok (.iload_n 2, 1) := by decide +kernel
theorem dL_law_75 : decode cL_law 75 = .ok (.imul, 1) := by decide +kernel
theorem dL_law_76 : decode cL_law 76 = .ok (.invokestatic 83, 3) := by decide +kernel
theorem dL_law_79 : decode cL_law 79 = .ok (.istore_n 3, 1) := by decide +kernel
theorem dL_law_80 : decode cL_law 80 = .ok (.aload_n 0, 1) := by decide +kernel
theorem dL_law_81 : decode cL_law 81 = .ok (.iconst 2, 1) := by decide +kernel
theorem dL_law_82 : decode cL_law 82 = .ok (.iload_n 2, 1) := by decide +kernel
theorem dL_law_83 : decode cL_law 83 = .ok (.imul, 1) := by decide +kernel
theorem dL_law_84 : decode cL_law 84 = .ok (.iconst 1, 1) := by decide +kernel
theorem dL_law_85 : decode cL_law 85 = .ok (.iadd, 1) := by decide +kernel
theorem dL_law_86 : decode cL_law 86 = .ok (.invokestatic 83, 3) := by decide +kernel
theorem dL_law_89 : decode cL_law 89 = .ok (.istore 4, 2) := by decide +kernel
theorem dL_law_91 : decode cL_law 91 = .ok (.aload_n 1, 1) := by decide +kernel
theorem dL_law_92 : decode cL_law 92 = .ok (.iload_n 3, 1) := by decide +kernel
theorem dL_law_93 : decode cL_law 93 = .ok (.iload 4, 2) := by decide +kernel
theorem dL_law_95 : decode cL_law 95 = .ok (.invokestatic 87, 3) := by decide +kernel
theorem dL_law_98 : decode cL_law 98 = .ok (.ifCond .eq 10, 3) := by decide +kernel
theorem dL_law_101 : decode cL_law 101 = .ok (.aload_n 1, 1) := by decide +kernel
theorem dL_law_102 : decode cL_law 102 = .ok (.invokestatic 76, 3) := by decide +kernel
theorem dL_law_105 : decode cL_law 105 = .ok (.ifCond .ne 5, 3) := by decide +kernel
theorem dL_law_108 : decode cL_law 108 = .ok (.iconst 0, 1) := by decide +kernel
theorem dL_law_109 : decode cL_law 109 = .ok (.ireturn, 1) := by decide +kernel
theorem dL_law_110 : decode cL_law 110 = .ok (.aload_n 1, 1) := by decide +kernel
theorem dL_law_111 : decode cL_law 111 = .ok (.iconst 0, 1) := by decide +kernel
theorem dL_law_112 : decode cL_law 112 = .ok (.iconst 0, 1) := by decide +kernel
theorem dL_law_113 : decode cL_law 113 = .ok (.invokevirtual 14, 3) := by decide +kernel
theorem dL_law_116 : decode cL_law 116 = .ok (.bipush 16, 2) := by decide +kernel
theorem dL_law_118 : decode cL_law 118 = .ok (.idiv, 1) := by decide +kernel
theorem dL_law_119 : decode cL_law 119 = .ok (.iload 4, 2) := by decide +kernel
theorem dL_law_121 : decode cL_law 121 = .ok (.iconst 4, 1) := by decide +kernel
theorem dL_law_122 : decode cL_law 122 = .ok (.ishr, 1) := by decide +kernel
theorem dL_law_123 : decode cL_law 123 = .ok (.bipush 21, 2) := by decide +kernel
theorem dL_law_125 : decode cL_law 125 = .ok (.invokestatic 51, 3) := by decide +kernel
theorem dL_law_128 : decode cL_law 128 = .ok (.iadd, 1) := by decide +kernel
theorem dL_law_129 : decode cL_law 129 = .ok (.bipush 10, 2) := by decide +kernel
theorem dL_law_131 : decode cL_law 131 = .ok (.isub, 1) := by decide +kernel
theorem dL_law_132 : decode cL_law 132 = .ok (.istore 5, 2) := by decide +kernel
theorem dL_law_134 : decode cL_law 134 = .ok (.aload_n 1, 1) := by decide +kernel
theorem dL_law_135 : decode cL_law 135 = .ok (.iconst 1, 1) := by decide +kernel
theorem dL_law_136 : decode cL_law 136 = .ok (.iconst 0, 1) := by decide +kernel
theorem dL_law_137 : decode cL_law 137 = .ok (.invokevirtual 14, 3) := by decide +kernel
theorem dL_law_140 : decode cL_law 140 = .ok (.bipush 16, 2) := by decide +kernel
theorem dL_law_142 : decode cL_law 142 = .ok (.idiv, 1) := by decide +kernel
theorem dL_law_143 : decode cL_law 143 = .ok (.iload 4, 2) := by decide +kernel
theorem dL_law_145 : decode cL_law 145 = .ok (.bipush 9, 2) := by decide +kernel
theorem dL_law_147 : decode cL_law 147 = .ok (.ishr, 1) := by decide +kernel
theorem dL_law_148 : decode cL_law 148 = .ok (.bipush 21, 2) := by decide +kernel
theorem dL_law_150 : decode cL_law 150 = .ok (.invokestatic 51, 3) := by decide +kernel
theorem dL_law_153 : decode cL_law 153 = .ok (.iadd, 1) := by decide +kernel
theorem dL_law_154 : decode cL_law 154 = .ok (.bipush 10, 2) := by decide +kernel
theorem dL_law_156 : decode cL_law 156 = .ok (.isub, 1) := by decide +kernel
theorem dL_law_157 : decode cL_law 157 = .ok (.istore 6, 2) := by decide +kernel
theorem dL_law_159 : decode cL_law 159 = .ok (.iload 5, 2) := by decide +kernel
theorem dL_law_161 : decode cL_law 161 = .ok (.ifCond .lt 28, 3) := by decide +kernel
theorem dL_law_164 : decode cL_law 164 = .ok (.iload 5, 2) := by decide +kernel
theorem dL_law_166 : decode cL_law 166 = .ok (.sipush 256, 3) := by decide +kernel
theorem dL_law_169 : decode cL_law 169 = .ok (.if_icmp .ge 20, 3) := by decide +kernel
theorem dL_law_172 : decode cL_law 172 = .ok (.iload 6, 2) := by decide +kernel
theorem dL_law_174 : decode cL_law 174 = .ok (.ifCond .lt 15, 3) := by decide +kernel
theorem dL_law_177 : decode cL_law 177 = .ok (.iload 6, 2) := by decide +kernel
theorem dL_law_179 : decode cL_law 179 = .ok (.sipush 256, 3) := by decide +kernel
theorem dL_law_182 : decode cL_law 182 = .ok (.if_icmp .ge 7, 3) := by decide +kernel
theorem dL_law_185 : decode cL_law 185 = .ok (.iconst 1, 1) := by decide +kernel
theorem dL_law_186 : decode cL_law 186 = .ok (.goto 4, 3) := by decide +kernel
theorem dL_law_189 : decode cL_law 189 = .ok (.iconst 0, 1) := by decide +kernel
theorem dL_law_190 : decode cL_law 190 = .ok (.istore 7, 2) := by decide +kernel
theorem dL_law_192 : decode cL_law 192 = .ok (.iload 7, 2) := by decide +kernel
theorem dL_law_194 : decode cL_law 194 = .ok (.ifCond .eq 23, 3) := by decide +kernel
theorem dL_law_197 : decode cL_law 197 = .ok (.iload_n 2, 1) := by decide +kernel
theorem dL_law_198 : decode cL_law 198 = .ok (.bipush 15, 2) := by decide +kernel
theorem dL_law_200 : decode cL_law 200 = .ok (.irem, 1) := by decide +kernel
theorem dL_law_201 : decode cL_law 201 = .ok (.bipush 8, 2) := by decide +kernel
theorem dL_law_203 : decode cL_law 203 = .ok (.if_icmp .ne 14, 3) := by decide +kernel
theorem dL_law_206 : decode cL_law 206 = .ok (.aload_n 1, 1) := by decide +kernel
theorem dL_law_207 : decode cL_law 207 = .ok (.iload 5, 2) := by decide +kernel
theorem dL_law_209 : decode cL_law 209 = .ok (.iload 6, 2) := by decide +kernel
theorem dL_law_211 : decode cL_law 211 = .ok (.invokestatic 90, 3) := by decide +kernel
theorem dL_law_214 : decode cL_law 214 = .ok (.ifCond .eq 29, 3) := by decide +kernel
theorem dL_law_217 : decode cL_law 217 = .ok (.iload_n 2, 1) := by decide +kernel
theorem dL_law_218 : decode cL_law 218 = .ok (.bipush 20, 2) := by decide +kernel
theorem dL_law_220 : decode cL_law 220 = .ok (.irem, 1) := by decide +kernel
theorem dL_law_221 : decode cL_law 221 = .ok (.bipush 13, 2) := by decide +kernel
theorem dL_law_223 : decode cL_law 223 = .ok (.if_icmp .ne 22, 3) := by decide +kernel
theorem dL_law_226 : decode cL_law 226 = .ok (.aload_n 1, 1) := by decide +kernel
theorem dL_law_227 : decode cL_law 227 = .ok (.iload_n 3, 1) := by decide +kernel
theorem dL_law_228 : decode cL_law 228 = .ok (.iconst 4, 1) := by decide +kernel
theorem dL_law_229 : decode cL_law 229 = .ok (.ishr, 1) := by decide +kernel
theorem dL_law_230 : decode cL_law 230 = .ok (.iconst 1, 1) := by decide +kernel
theorem dL_law_231 : decode cL_law 231 = .ok (.iand, 1) := by decide +kernel
theorem dL_law_232 : decode cL_law 232 = .ok (.iload_n 3, 1) := by decide +kernel
theorem dL_law_233 : decode cL_law 233 = .ok (.iconst 5, 1) := by decide +kernel
theorem dL_law_234 : decode cL_law 234 = .ok (.ishr, 1) := by decide +kernel
theorem dL_law_235 : decode cL_law 235 = .ok (.iconst 1, 1) := by decide +kernel
theorem dL_law_236 : decode cL_law 236 = .ok (.iand, 1) := by decide +kernel
theorem dL_law_237 : decode cL_law 237 = .ok (.invokestatic 93, 3) := by decide +kernel
theorem dL_law_240 : decode cL_law 240 = .ok (.ifCond .ne 5, 3) := by decide +kernel
theorem dL_law_243 : decode cL_law 243 = .ok (.iconst 0, 1) := by decide +kernel
theorem dL_law_244 : decode cL_law 244 = .ok (.ireturn, 1) := by decide +kernel
theorem dL_law_245 : decode cL_law 245 = .ok (.iinc 2 1, 3) := by decide +kernel
theorem dL_law_248 : decode cL_law 248 = .ok (.goto (-182), 3) := by decide +kernel
theorem dL_law_251 : decode cL_law 251 = .ok (.aload_n 1, 1) := by decide +kernel
theorem dL_law_252 : decode cL_law 252 = .ok (.sipush 256, 3) := by decide +kernel
theorem dL_law_255 : decode cL_law 255 = .ok (.iconst 0, 1) := by decide +kernel
theorem dL_law_256 : decode cL_law 256 = .ok (.invokevirtual 32, 3) := by decide +kernel
theorem dL_law_259 : decode cL_law 259 = .ok (.bipush (-2), 2) := by decide +kernel
theorem dL_law_261 : decode cL_law 261 = .ok (.if_icmp .ne 77, 3) := by decide +kernel
theorem dL_law_264 : decode cL_law 264 = .ok (.aload_n 1, 1) := by decide +kernel
theorem dL_law_265 : decode cL_law 265 = .ok (.iconst 0, 1) := by decide +kernel
theorem dL_law_266 : decode cL_law 266 = .ok (.iconst 0, 1) := by decide +kernel
theorem dL_law_267 : decode cL_law 267 = .ok (.sipush 201, 3) := by decide +kernel
theorem dL_law_270 : decode cL_law 270 = .ok (.invokevirtual 71, 3) := by decide +kernel
theorem dL_law_273 : decode cL_law 273 = .ok (.bipush (-2), 2) := by decide +kernel
theorem dL_law_275 : decode cL_law 275 = .ok (.if_icmp .ne 63, 3) := by decide +kernel
theorem dL_law_278 : decode cL_law 278 = .ok (.aload_n 1, 1) := by decide +kernel
theorem dL_law_279 : decode cL_law 279 = .ok (.bipush 7, 2) := by decide +kernel
theorem dL_law_281 : decode cL_law 281 = .ok (.iconst 1, 1) := by decide +kernel
theorem dL_law_282 : decode cL_law 282 = .ok (.invokevirtual 54, 3) := by decide +kernel
theorem dL_law_285 : decode cL_law 285 = .ok (.bipush (-2), 2) := by decide +kernel
theorem dL_law_287 : decode cL_law 287 = .ok (.if_icmp .ne 51, 3) := by decide +kernel
theorem dL_law_290 : decode cL_law 290 = .ok (.aload_n 1, 1) := by decide +kernel
theorem dL_law_291 : decode cL_law 291 = .ok (.iconst 3, 1) := by decide +kernel
theorem dL_law_292 : decode cL_law 292 = .ok (.bipush 59, 2) := by decide +kernel
theorem dL_law_294 : decode cL_law 294 = .ok (.invokevirtual 54, 3) := by decide +kernel
theorem dL_law_297 : decode cL_law 297 = .ok (.bipush (-2), 2) := by decide +kernel
theorem dL_law_299 : decode cL_law 299 = .ok (.if_icmp .ne 39, 3) := by decide +kernel
theorem dL_law_302 : decode cL_law 302 = .ok (.aload_n 1, 1) := by decide +kernel
theorem dL_law_303 : decode cL_law 303 = .ok (.iconst 2, 1) := by decide +kernel
theorem dL_law_304 : decode cL_law 304 = .ok (.iconst 0, 1) := by decide +kernel
theorem dL_law_305 : decode cL_law 305 = .ok (.invokevirtual 47, 3) := by decide +kernel
theorem dL_law_308 : decode cL_law 308 = .ok (.iconst (-1), 1) := by decide +kernel
theorem dL_law_309 : decode cL_law 309 = .ok (.if_icmp .ne 29, 3) := by decide +kernel
theorem dL_law_312 : decode cL_law 312 = .ok (.aload_n 1, 1) := by decide +kernel
theorem dL_law_313 : decode cL_law 313 = .ok (.iconst 0, 1) := by decide +kernel
theorem dL_law_314 : decode cL_law 314 = .ok (.iconst 2, 1) := by decide +kernel
theorem dL_law_315 : decode cL_law 315 = .ok (.invokevirtual 47, 3) := by decide +kernel
theorem dL_law_318 : decode cL_law 318 = .ok (.bipush (-2), 2) := by decide +kernel
theorem dL_law_320 : decode cL_law 320 = .ok (.if_icmp .ne 18, 3) := by decide +kernel
theorem dL_law_323 : decode cL_law 323 = .ok (.aload_n 1, 1) := by decide +kernel
theorem dL_law_324 : decode cL_law 324 = .ok (.bipush 19, 2) := by decide +kernel
theorem dL_law_326 : decode cL_law 326 = .ok (.invokevirtual 8, 3) := by decide +kernel
theorem dL_law_329 : decode cL_law 329 = .ok (.bipush (-2), 2) := by decide +kernel
theorem dL_law_331 : decode cL_law 331 = .ok (.if_icmp .ne 7, 3) := by decide +kernel
theorem dL_law_334 : decode cL_law 334 = .ok (.iconst 1, 1) := by decide +kernel
theorem dL_law_335 : decode cL_law 335 = .ok (.goto 4, 3) := by decide +kernel
theorem dL_law_338 : decode cL_law 338 = .ok (.iconst 0, 1) := by decide +kernel
theorem dL_law_339 : decode cL_law 339 = .ok (.ireturn, 1) := by decide +kernel
end
section
/-! the walk's judgement: heap, array of locals and framing are quantified away; what is left is the world's cells, the pc, the listed locals, the stack -/
abbrev gD : Type := va_G × ClassId × ClassId × ClassId × ClassId
def gTys (d : gD) : List (ClassId × FieldType) := [(d.2.1, .int), (d.2.2.1, .char), (d.2.2.2.1, .char), (d.2.2.2.2, .object RX3)]
/-- the words of private members of nest mates -/
def gNest : List Cond := [.fieldLinkNest "StickRests$Stick" 9 "StickRests" "FIRST" "[I" "StickRests", .fieldLinkNest "StickRests$Stick" 168 "StickRests$Directions" "unlike" "I" "StickRests", .fieldLinkNest "StickRests" 89 "StickRests$Stick" "directions" "LStickRests$Directions;" "StickRests", .fieldLinkNest "StickRests" 180 "StickRests$Stick" "samples" "I" "StickRests", .fieldLinkNest "StickRests" 98 "StickRests$Pad" "length" "I" "StickRests", .fieldLinkNest "StickRests" 102 "StickRests$History" "size" "I" "StickRests", .methodLinkNest "StickRests$Stick" 99 ⟨"StickRests", "isSample", "(II)Z"⟩ "StickRests", .methodLinkNest "StickRests$Stick" 123 ⟨"StickRests", "packed", "(II)I"⟩ "StickRests", .methodLinkNest "StickRests$Stick" 129 ⟨"StickRests", "quotient", "(II)I"⟩ "StickRests"]
theorem gNest_kind : ∀ w ∈ gNest, (∃ (a : String) (i : Nat) (b n d h : String), w = .fieldLinkNest a i b n d h) ∨ (∃ (a : String) (i : Nat) (x : MethodName) (h : String), w = .methodLinkNest a i x h) := by
  intro w hw
  simp only [gNest, List.mem_cons, List.not_mem_nil, or_false] at hw
  rcases hw with rfl | rfl | rfl | rfl | rfl | rfl | rfl | rfl | rfl
  · exact Or.inl ⟨_, _, _, _, _, _, rfl⟩
  · exact Or.inl ⟨_, _, _, _, _, _, rfl⟩
  · exact Or.inl ⟨_, _, _, _, _, _, rfl⟩
  · exact Or.inl ⟨_, _, _, _, _, _, rfl⟩
  · exact Or.inl ⟨_, _, _, _, _, _, rfl⟩
  · exact Or.inl ⟨_, _, _, _, _, _, rfl⟩
  · exact Or.inr ⟨_, _, _, _, rfl⟩
  · exact Or.inr ⟨_, _, _, _, rfl⟩
  · exact Or.inr ⟨_, _, _, _, rfl⟩
/-- what the tables say of the launch's classes, beside the words -/
def gK (d : gD) (U : State) : Prop := va_K d.1 vwCl (gTys d) U ∧ va_AO RX3 U ∧ va_Nw (.castable "[I" "java/lang/Cloneable") U ∧ ∀ w ∈ gNest, va_Nw w U
theorem gK.warm {d : gD} {u U : State} (hW : u.WarmedH U.vm) (h : gK d u) : gK d U := by
  obtain ⟨h1, h2, h3, h4⟩ := h
  refine ⟨h1.moved hW.alike, h2.moved hW.alike, ?_, fun w hw => ?_⟩
  · exact va_tabs rfl (rfl : (u.setVm U.vm).vm = U.vm) (by rw [Cond.castable_setVm hW.alike]; exact h3)
  · rcases gNest_kind w hw with ⟨a, i, b, n, t, q, rfl⟩ | ⟨a, i, y, q, rfl⟩
    · exact va_Nw.warmF hW (h4 _ hw)
    · exact va_Nw.warmM hW (h4 _ hw)
theorem gK.calling {d : gD} {U : State} {g : JFrame} {mk : MethodId} {a : Array Value} (h : gK d U) : gK d (U.calling g mk a) := by
  obtain ⟨h1, h2, h3, h4⟩ := h
  refine ⟨va_K.moved (u := U) (U := U.calling g mk a) (Vm.Alike.refl U.vm) h1, va_AO.moved (u := U) (U := U.calling g mk a) (Vm.Alike.refl U.vm) h2, va_Nw.same rfl (u := U) rfl h3, fun w hw => ?_⟩
  rcases gNest_kind w hw with ⟨a, i, b, n, t, q, rfl⟩ | ⟨a, i, y, q, rfl⟩
  · exact va_Nw.same rfl (u := U) rfl (h4 _ hw)
  · exact va_Nw.same rfl (u := U) rfl (h4 _ hw)
/-- the three tables of the class: which is first, least, most -/
def tabF : Nat → Int32 := fun k => match k with | 0 => 8 | 1 => 6 | 2 => 8 | 3 => 100 | 4 => 150 | 5 => 12 | _ => 4
def tabL : Nat → Int32 := fun k => match k with | 0 => 1 | 1 => 1 | 2 => 0 | 3 => 60 | 4 => 100 | 5 => 2 | _ => 0
def tabM : Nat → Int32 := fun k => match k with | 0 => 64 | 1 => 30 | 2 => 20 | 3 => 127 | 4 => 200 | 5 => 60 | _ => 20
def gZ (n : String) (f : Nat → Int32) (A : Nat → Prop) (U : State) (H : Heap) : Prop := ∃ t : Nat, va_Z RX4 n "[I" (.ref t) A U H ∧ va_T .int t 7 (fun j => .int (f j)) A U H
/-- FIRST's own cell, for its clone -/
def gF (cI : ClassId) (A : Nat → Prop) (U : State) (H : Heap) : Prop := ∃ t : Nat, va_Z RX4 "FIRST" "[I" (.ref t) A U H ∧ ∃ cell : Cell, H[t]? = some cell ∧ cell.vm ≠ .unknown ∧ (∀ k, cell.vm ≠ .statics k) ∧ cell.cls = cI ∧ cell.slots = (vp_cell cI (7, .inl tabF)).slots ∧ U.vm.findClass "[I" = some cI ∧ ¬ A t
def gS (cI : ClassId) (A : Nat → Prop) (U : State) (H : Heap) : Prop := gF cI A U H ∧ gZ "LEAST" tabL A U H ∧ gZ "MOST" tabM A U H
theorem gZ.go {n : String} {f : Nat → Int32} {A B : Nat → Prop} {u U : State} {H H1 : Heap} (hvm : u.vm.Alike U.vm) (hAB : ∀ q, B q → A q) (hq : ∀ a : Nat, a < H.size → ¬ A a → H1[a]? = H[a]?) (h : gZ n f A u H) : gZ n f B U H1 := by
  obtain ⟨t, h1, h2⟩ := h
  exact ⟨t, ((h1.moved hvm).kept hq).narrow hAB, ((h2.moved hvm).kept hq).narrow hAB⟩
theorem gF.go {cI : ClassId} {A B : Nat → Prop} {u U : State} {H H1 : Heap} (hvm : u.vm.Alike U.vm) (hAB : ∀ q, B q → A q) (hq : ∀ a : Nat, a < H.size → ¬ A a → H1[a]? = H[a]?) (h : gF cI A u H) : gF cI B U H1 := by
  obtain ⟨t, h1, cell, h2, h3, h4, h5, h6, h7, h8⟩ := h
  exact ⟨t, ((h1.moved hvm).kept hq).narrow hAB, cell, by rw [hq t (Array.getElem?_eq_some_iff.mp h2).1 h8]; exact h2, h3, h4, h5, h6, by rw [hvm.findClass]; exact h7, fun z => h8 (hAB t z)⟩
theorem gS.go {cI : ClassId} {A B : Nat → Prop} {u U : State} {H H1 : Heap} (hvm : u.vm.Alike U.vm) (hAB : ∀ q, B q → A q) (hq : ∀ a : Nat, a < H.size → ¬ A a → H1[a]? = H[a]?) (h : gS cI A u H) : gS cI B U H1 := ⟨h.1.go hvm hAB hq, h.2.1.go hvm hAB hq, h.2.2.go hvm hAB hq⟩
/-- all that a walk stands in: program, launch, env, room, start, method, arguments, frames below, its record, its code, what it may write, the number of its locals, the end -/
abbrev gX : Type := Program × Launch × Env × Room × State × MethodId × Array Value × List Frame × Method × Code × (Nat → Prop) × Nat × (State → Prop)
def G (d : gD) : gX → va_W → Nat → Nat → Nat → List (Nat × Value) → List Value → Prop := fun (p, l, e, R, s, m, args, below, meth, c, A, nL, Q) ws cells slots pc lv st =>
  ∀ (H : Heap) (locs : List Loc) (ls : Array Slot), va_P d.1 vwCl ws H → va_D A ws → va_S A s.heap H locs → lv_has ls nL lv → W p l e R s m args below meth c H locs cells slots Q (F0 m pc ls st)
def gE (d : gD) : gX → String → ByteArray → Nat → Room → Prop := fun (p, _, _, R, s, m, args, _, meth, c, A, nL, _) own cc n rm =>
  p.tables.exec = Jvm.exec ∧ c.code = cc ∧ c.maxLocals = n ∧ nL = n ∧ s.vm.findClass own = some m.cls ∧ (∀ w ∈ wsL_law, w.before args s = true) ∧ gK d s ∧ gS d.2.1 A s s.heap ∧ (∀ q, s.heap.size ≤ q → A q) ∧ R = rm ∧ meth.locks = false
def gInit : gX → Prop := fun (_, _, _, _, _, _, _, _, meth, _, _, _, _) => meth.name = "<init>"
theorem arrV_congr {cI : ClassId} {N : Nat} {f g : Nat → Value} (h : ∀ j, j < N → f j = g j) : arrV cI N f = arrV cI N g := by
  unfold arrV
  congr 2
  funext j
  exact h j.val j.isLt
section GL
variable {d : gD} {x : gX} {own : String} {cc : ByteArray} {n : Nat} {rm : Room} {ws : va_W} {cells slots pc : Nat} {lv : List (Nat × Value)} {st : List Value}
theorem g_eq {ws' : va_W} (h : ws = ws') (k : G d x ws' cells slots pc lv st) : G d x ws cells slots pc lv st := h ▸ k
theorem g_st {st' : List Value} (h : st = st') (k : G d x ws cells slots pc lv st') : G d x ws cells slots pc lv st := h ▸ k
theorem g_top {a b : Int32} (h : a = b) (k : G d x ws cells slots pc lv (.int b :: st)) : G d x ws cells slots pc lv (.int a :: st) := h ▸ k
theorem g_topl {a b : Int64} (h : a = b) (k : G d x ws cells slots pc lv (.long b :: st)) : G d x ws cells slots pc lv (.long a :: st) := h ▸ k
theorem g_nm {a : Int32} (k : ∀ y : Int32, a = y → G d x ws cells slots pc lv (.int y :: st)) : G d x ws cells slots pc lv (.int a :: st) := k a rfl
theorem g_lv {lv' : List (Nat × Value)} (h : ∀ q ∈ lv', q ∈ lv) (k : G d x ws cells slots pc lv' st) : G d x ws cells slots pc lv st := by
  obtain ⟨p, l, e, R, s, m, args, below, meth, c, A, nL, Q⟩ := x
  intro H locs ls hP hD hS hl
  exact k H locs ls hP hD hS ⟨hl.1, hl.2.1, fun q hq => hl.2.2 q (h q hq)⟩
theorem g_lvs {lv' : List (Nat × Value)} (ks : List Nat) (h : lv_pick lv ks = lv') (k : G d x ws cells slots pc lv' st) : G d x ws cells slots pc lv st := by
  obtain ⟨p, l, e, R, s, m, args, below, meth, c, A, nL, Q⟩ := x
  intro H locs ls hP hD hS hl
  exact k H locs ls hP hD hS (lv_sub hl ks h)
theorem g_widen {k1 n1 : Nat} (h1 : cells ≤ k1) (h2 : slots ≤ n1) (k : G d x ws k1 n1 pc lv st) : G d x ws cells slots pc lv st := by
  obtain ⟨p, l, e, R, s, m, args, below, meth, c, A, nL, Q⟩ := x
  intro H locs ls hP hD hS hl
  exact W.widen h1 h2 (k H locs ls hP hD hS hl)
/-- the cells in another order, or fewer -/
theorem g_sub {ws' : va_W} (hm : ∀ q ∈ ws', q ∈ ws) (hn : (ws'.map (·.1)).Nodup) (k : G d x ws' cells slots pc lv st) : G d x ws cells slots pc lv st := by
  obtain ⟨p, l, e, R, s, m, args, below, meth, c, A, nL, Q⟩ := x
  intro H locs ls hP hD hS hl
  refine k H locs ls (fun i q hq => ?_) ⟨fun i j p q hi hj hpq => ?_, fun i q hq => ?_⟩ hS hl
  · obtain ⟨k, hk⟩ := List.getElem?_of_mem (hm q (List.mem_of_getElem? hq))
    exact hP k q hk
  · have h1 : (ws'.map (·.1))[i]? = some p.1 := by rw [List.getElem?_map, hi]; rfl
    have h2 : (ws'.map (·.1))[j]? = some q.1 := by rw [List.getElem?_map, hj]; rfl
    rw [hpq] at h1
    obtain ⟨l1, e1⟩ := List.getElem?_eq_some_iff.mp h1
    obtain ⟨l2, e2⟩ := List.getElem?_eq_some_iff.mp h2
    have hpw := List.pairwise_iff_getElem.mp hn
    rcases Nat.lt_trichotomy i j with h | h | h
    · exact absurd (e1.trans e2.symm) (hpw i j l1 l2 h)
    · exact h
    · exact absurd (e2.trans e1.symm) (hpw j i l2 l1 h)
  · obtain ⟨k, hk⟩ := List.getElem?_of_mem (hm q (List.mem_of_getElem? hq))
    exact hD.2 k q hk
theorem g_nodup {A : Nat → Prop} {ws : va_W} (hD : va_D A ws) : (ws.map (·.1)).Nodup := by
  refine List.pairwise_iff_getElem.mpr (fun i j hi hj hij h => ?_)
  have hj' : j < ws.length := by simpa using hj
  have hi' : i < ws.length := by simpa using hi
  rw [List.getElem_map, List.getElem_map] at h
  have := hD.1 i j ws[i] ws[j] (List.getElem?_eq_getElem hi') (List.getElem?_eq_getElem hj') h
  omega
theorem g_perm {ws' : va_W} (hp : ws.Perm ws') (k : G d x ws' cells slots pc lv st) : G d x ws cells slots pc lv st := by
  have k0 := k
  obtain ⟨p, l, e, R, s, m, args, below, meth, c, A, nL, Q⟩ := x
  intro H locs ls hP hD hS hl
  exact g_sub (x := (p, l, e, R, s, m, args, below, meth, c, A, nL, Q)) (fun q hq => hp.symm.subset hq) ((hp.map (·.1)).nodup_iff.mp (g_nodup hD)) k0 H locs ls hP hD hS hl
/-- an array's row may be said by any other that is the same within its length -/
theorem g_cell {a n' : Nat} {cA : ClassId} {f f' : Nat → Int32} (q0 : Nat) (he : ws[q0]? = some (a, .inl (cA, n', .inl f))) (hf : ∀ j, j < n' → f j = f' j) (k : G d x (ws.set q0 (a, .inl (cA, n', .inl f'))) cells slots pc lv st) : G d x ws cells slots pc lv st := by
  obtain ⟨p, l, e, R, s, m, args, below, meth, c, A, nL, Q⟩ := x
  intro H locs ls hP hD hS hl
  refine k H locs ls (hP.set hD he ?_ (fun _ _ => rfl)) (hD.set he) hS hl
  show H[a]? = some (vp_cell cA (n', .inl f'))
  rw [show vp_cell cA (n', .inl f') = vp_cell cA (n', .inl f) from ?_]
  · exact hP q0 _ he
  · rw [vp_cell_i, vp_cell_i]
    exact arrV_congr (fun j hj => by rw [hf j hj])
theorem g_cellq {a n' : Nat} {cA : ClassId} {f f' : Nat → Option Nat} (q0 : Nat) (he : ws[q0]? = some (a, .inl (cA, n', .inr (.inr (.inr (.inr f)))))) (hf : ∀ j, j < n' → f j = f' j) (k : G d x (ws.set q0 (a, .inl (cA, n', .inr (.inr (.inr (.inr f')))))) cells slots pc lv st) : G d x ws cells slots pc lv st := by
  obtain ⟨p, l, e, R, s, m, args, below, meth, c, A, nL, Q⟩ := x
  intro H locs ls hP hD hS hl
  refine k H locs ls (hP.set hD he ?_ (fun _ _ => rfl)) (hD.set he) hS hl
  show H[a]? = some (vp_cell cA (n', .inr (.inr (.inr (.inr f')))))
  rw [show vp_cell cA (n', .inr (.inr (.inr (.inr f')))) = vp_cell cA (n', .inr (.inr (.inr (.inr f)))) from ?_]
  · exact hP q0 _ he
  · rw [vp_cell_q, vp_cell_q]
    exact arrV_congr (fun j hj => by rw [hf j hj])
theorem g_iconst (E : gE d x own cc n rm) {k : Int} (v : Int32) (hdg : decode cc pc = .ok (.iconst k, 1)) (hv : Int32.ofInt k = v) (kk : G d x ws cells slots (pc + 1) lv (.int v :: st)) : G d x ws cells slots pc lv (st) := by
  obtain ⟨p, l, e, R, s, m, args, below, meth, c, A, nL, Q⟩ := x
  obtain ⟨hx, hb, hml, hnL, hown, hts, hK, hZ, hA, hR, hlk⟩ := E
  intro H locs ls hP hD hS hl
  exact lv_iconst hx hb hdg hv (kk H locs ls hP hD hS hl)
theorem g_bipush (E : gE d x own cc n rm) {k : Int} (v : Int32) (hdg : decode cc pc = .ok (.bipush k, 2)) (hv : (Int8.ofInt k).toInt32 = v) (kk : G d x ws cells slots (pc + 2) lv (.int v :: st)) : G d x ws cells slots pc lv (st) := by
  obtain ⟨p, l, e, R, s, m, args, below, meth, c, A, nL, Q⟩ := x
  obtain ⟨hx, hb, hml, hnL, hown, hts, hK, hZ, hA, hR, hlk⟩ := E
  intro H locs ls hP hD hS hl
  exact lv_bipush hx hb hdg hv (kk H locs ls hP hD hS hl)
theorem g_sipush (E : gE d x own cc n rm) {k : Int} (v : Int32) (hdg : decode cc pc = .ok (.sipush k, 3)) (hv : (Int16.ofInt k).toInt32 = v) (kk : G d x ws cells slots (pc + 3) lv (.int v :: st)) : G d x ws cells slots pc lv (st) := by
  obtain ⟨p, l, e, R, s, m, args, below, meth, c, A, nL, Q⟩ := x
  obtain ⟨hx, hb, hml, hnL, hown, hts, hK, hZ, hA, hR, hlk⟩ := E
  intro H locs ls hP hD hS hl
  exact lv_sipush hx hb hdg hv (kk H locs ls hP hD hS hl)
theorem g_lconst (E : gE d x own cc n rm) {k : Fin 2} (v : Int64) (hdg : decode cc pc = .ok (.lconst k, 1)) (hv : Int64.ofNat (k : Nat) = v) (kk : G d x ws cells slots (pc + 1) lv (.long v :: st)) : G d x ws cells slots pc lv (st) := by
  obtain ⟨p, l, e, R, s, m, args, below, meth, c, A, nL, Q⟩ := x
  obtain ⟨hx, hb, hml, hnL, hown, hts, hK, hZ, hA, hR, hlk⟩ := E
  intro H locs ls hP hD hS hl
  exact lv_lconst hx hb hdg hv (kk H locs ls hP hD hS hl)
theorem g_ldc (E : gE d x own cc n rm) {index : Nat} {v : Int32} (hc : Cond.constant own index v ∈ wsL_law) (hdg : decode cc pc = .ok (.ldc index, 2)) (kk : G d x ws cells slots (pc + 2) lv (.int v :: st)) : G d x ws cells slots pc lv (st) := by
  obtain ⟨p, l, e, R, s, m, args, below, meth, c, A, nL, Q⟩ := x
  obtain ⟨hx, hb, hml, hnL, hown, hts, hK, hZ, hA, hR, hlk⟩ := E
  intro H locs ls hP hD hS hl
  exact lv_ldc hx hb hown (hts _ hc) hdg (kk H locs ls hP hD hS hl)
theorem g_ldc2 (E : gE d x own cc n rm) {index : Nat} {v : Int64} (hc : Cond.constantLong own index v ∈ wsL_law) (hdg : decode cc pc = .ok (.ldc2_w index, 3)) (kk : G d x ws cells slots (pc + 3) lv (.long v :: st)) : G d x ws cells slots pc lv (st) := by
  obtain ⟨p, l, e, R, s, m, args, below, meth, c, A, nL, Q⟩ := x
  obtain ⟨hx, hb, hml, hnL, hown, hts, hK, hZ, hA, hR, hlk⟩ := E
  intro H locs ls hP hD hS hl
  exact lv_ldc2 hx hb hown (hts _ hc) hdg (kk H locs ls hP hD hS hl)
theorem g_iload_n (E : gE d x own cc n rm) {k : Fin 4} {i : Nat} {v : Int32} (j : Nat) (hdg : decode cc pc = .ok (.iload_n k, 1)) (hi : (k : Nat) = i) (hj : lv[j]? = some (i, .int v)) (kk : G d x ws cells slots (pc + 1) lv (.int v :: st)) : G d x ws cells slots pc lv (st) := by
  obtain ⟨p, l, e, R, s, m, args, below, meth, c, A, nL, Q⟩ := x
  obtain ⟨hx, hb, hml, hnL, hown, hts, hK, hZ, hA, hR, hlk⟩ := E
  intro H locs ls hP hD hS hl
  exact lv_iload_n hx hb hdg hi (lv_at hl j hj) (kk H locs ls hP hD hS hl)
theorem g_iload (E : gE d x own cc n rm) {i : Nat} {v : Int32} (j : Nat) (hdg : decode cc pc = .ok (.iload i, 2)) (hj : lv[j]? = some (i, .int v)) (kk : G d x ws cells slots (pc + 2) lv (.int v :: st)) : G d x ws cells slots pc lv (st) := by
  obtain ⟨p, l, e, R, s, m, args, below, meth, c, A, nL, Q⟩ := x
  obtain ⟨hx, hb, hml, hnL, hown, hts, hK, hZ, hA, hR, hlk⟩ := E
  intro H locs ls hP hD hS hl
  exact lv_iload hx hb hdg (lv_at hl j hj) (kk H locs ls hP hD hS hl)
theorem g_lload_n (E : gE d x own cc n rm) {k : Fin 4} {i : Nat} {v : Int64} (j : Nat) (hdg : decode cc pc = .ok (.lload_n k, 1)) (hi : (k : Nat) = i) (hj : lv[j]? = some (i, .long v)) (kk : G d x ws cells slots (pc + 1) lv (.long v :: st)) : G d x ws cells slots pc lv (st) := by
  obtain ⟨p, l, e, R, s, m, args, below, meth, c, A, nL, Q⟩ := x
  obtain ⟨hx, hb, hml, hnL, hown, hts, hK, hZ, hA, hR, hlk⟩ := E
  intro H locs ls hP hD hS hl
  exact lv_lload_n hx hb hdg hi (lv_at hl j hj) (kk H locs ls hP hD hS hl)
theorem g_lload (E : gE d x own cc n rm) {i : Nat} {v : Int64} (j : Nat) (hdg : decode cc pc = .ok (.lload i, 2)) (hj : lv[j]? = some (i, .long v)) (kk : G d x ws cells slots (pc + 2) lv (.long v :: st)) : G d x ws cells slots pc lv (st) := by
  obtain ⟨p, l, e, R, s, m, args, below, meth, c, A, nL, Q⟩ := x
  obtain ⟨hx, hb, hml, hnL, hown, hts, hK, hZ, hA, hR, hlk⟩ := E
  intro H locs ls hP hD hS hl
  exact lv_lload hx hb hdg (lv_at hl j hj) (kk H locs ls hP hD hS hl)
theorem g_aload_n (E : gE d x own cc n rm) {k : Fin 4} {i : Nat} {v : Nat} (j : Nat) (hdg : decode cc pc = .ok (.aload_n k, 1)) (hi : (k : Nat) = i) (hj : lv[j]? = some (i, .ref v)) (kk : G d x ws cells slots (pc + 1) lv (.ref v :: st)) : G d x ws cells slots pc lv (st) := by
  obtain ⟨p, l, e, R, s, m, args, below, meth, c, A, nL, Q⟩ := x
  obtain ⟨hx, hb, hml, hnL, hown, hts, hK, hZ, hA, hR, hlk⟩ := E
  intro H locs ls hP hD hS hl
  exact lv_aload_n hx hb hdg hi (lv_at hl j hj) (kk H locs ls hP hD hS hl)
theorem g_aload (E : gE d x own cc n rm) {i : Nat} {v : Nat} (j : Nat) (hdg : decode cc pc = .ok (.aload i, 2)) (hj : lv[j]? = some (i, .ref v)) (kk : G d x ws cells slots (pc + 2) lv (.ref v :: st)) : G d x ws cells slots pc lv (st) := by
  obtain ⟨p, l, e, R, s, m, args, below, meth, c, A, nL, Q⟩ := x
  obtain ⟨hx, hb, hml, hnL, hown, hts, hK, hZ, hA, hR, hlk⟩ := E
  intro H locs ls hP hD hS hl
  exact lv_aload hx hb hdg (lv_at hl j hj) (kk H locs ls hP hD hS hl)
theorem g_istore_n (E : gE d x own cc n rm) {k : Fin 4} {i : Nat} {v : Int32} {lv' : List (Nat × Value)} (hdg : decode cc pc = .ok (.istore_n k, 1)) (hi : (k : Nat) = i) (hn : i < n) (hf : (i, Value.int v) :: lv.filter (fun q => !(q.1 == i) && !(q.1 + 1 == i && q.2.category == 2)) = lv') (kk : G d x ws cells slots (pc + 1) lv' (st)) : G d x ws cells slots pc lv (.int v :: st) := by
  obtain ⟨p, l, e, R, s, m, args, below, meth, c, A, nL, Q⟩ := x
  obtain ⟨hx, hb, hml, hnL, hown, hts, hK, hZ, hA, hR, hlk⟩ := E
  intro H locs ls hP hD hS hl
  exact lv_istore_n hx hb hdg hi hl (by rw [hnL]; exact hn) hf (fun ls hl => (kk H locs ls hP hD hS hl))
theorem g_istore (E : gE d x own cc n rm) {i : Nat} {v : Int32} {lv' : List (Nat × Value)} (hdg : decode cc pc = .ok (.istore i, 2)) (hn : i < n) (hf : (i, Value.int v) :: lv.filter (fun q => !(q.1 == i) && !(q.1 + 1 == i && q.2.category == 2)) = lv') (kk : G d x ws cells slots (pc + 2) lv' (st)) : G d x ws cells slots pc lv (.int v :: st) := by
  obtain ⟨p, l, e, R, s, m, args, below, meth, c, A, nL, Q⟩ := x
  obtain ⟨hx, hb, hml, hnL, hown, hts, hK, hZ, hA, hR, hlk⟩ := E
  intro H locs ls hP hD hS hl
  exact lv_istore hx hb hdg hl (by rw [hnL]; exact hn) hf (fun ls hl => (kk H locs ls hP hD hS hl))
theorem g_lstore_n (E : gE d x own cc n rm) {k : Fin 4} {i : Nat} {v : Int64} {lv' : List (Nat × Value)} (hdg : decode cc pc = .ok (.lstore_n k, 1)) (hi : (k : Nat) = i) (hn : i + 1 < n) (hf : (i, Value.long v) :: lv.filter (fun q => !(q.1 == i) && (!(q.1 == i + 1) && !(q.1 + 1 == i && q.2.category == 2))) = lv') (kk : G d x ws cells slots (pc + 1) lv' (st)) : G d x ws cells slots pc lv (.long v :: st) := by
  obtain ⟨p, l, e, R, s, m, args, below, meth, c, A, nL, Q⟩ := x
  obtain ⟨hx, hb, hml, hnL, hown, hts, hK, hZ, hA, hR, hlk⟩ := E
  intro H locs ls hP hD hS hl
  exact lv_lstore_n hx hb hdg hi hl (by rw [hnL]; exact hn) hf (fun ls hl => (kk H locs ls hP hD hS hl))
theorem g_lstore (E : gE d x own cc n rm) {i : Nat} {v : Int64} {lv' : List (Nat × Value)} (hdg : decode cc pc = .ok (.lstore i, 2)) (hn : i + 1 < n) (hf : (i, Value.long v) :: lv.filter (fun q => !(q.1 == i) && (!(q.1 == i + 1) && !(q.1 + 1 == i && q.2.category == 2))) = lv') (kk : G d x ws cells slots (pc + 2) lv' (st)) : G d x ws cells slots pc lv (.long v :: st) := by
  obtain ⟨p, l, e, R, s, m, args, below, meth, c, A, nL, Q⟩ := x
  obtain ⟨hx, hb, hml, hnL, hown, hts, hK, hZ, hA, hR, hlk⟩ := E
  intro H locs ls hP hD hS hl
  exact lv_lstore hx hb hdg hl (by rw [hnL]; exact hn) hf (fun ls hl => (kk H locs ls hP hD hS hl))
theorem g_astore_n (E : gE d x own cc n rm) {k : Fin 4} {i : Nat} {v : Nat} {lv' : List (Nat × Value)} (hdg : decode cc pc = .ok (.astore_n k, 1)) (hi : (k : Nat) = i) (hn : i < n) (hf : (i, Value.ref v) :: lv.filter (fun q => !(q.1 == i) && !(q.1 + 1 == i && q.2.category == 2)) = lv') (kk : G d x ws cells slots (pc + 1) lv' (st)) : G d x ws cells slots pc lv (.ref v :: st) := by
  obtain ⟨p, l, e, R, s, m, args, below, meth, c, A, nL, Q⟩ := x
  obtain ⟨hx, hb, hml, hnL, hown, hts, hK, hZ, hA, hR, hlk⟩ := E
  intro H locs ls hP hD hS hl
  exact lv_astore_n hx hb hdg hi hl (by rw [hnL]; exact hn) hf (fun ls hl => (kk H locs ls hP hD hS hl))
theorem g_astore (E : gE d x own cc n rm) {i : Nat} {v : Nat} {lv' : List (Nat × Value)} (hdg : decode cc pc = .ok (.astore i, 2)) (hn : i < n) (hf : (i, Value.ref v) :: lv.filter (fun q => !(q.1 == i) && !(q.1 + 1 == i && q.2.category == 2)) = lv') (kk : G d x ws cells slots (pc + 2) lv' (st)) : G d x ws cells slots pc lv (.ref v :: st) := by
  obtain ⟨p, l, e, R, s, m, args, below, meth, c, A, nL, Q⟩ := x
  obtain ⟨hx, hb, hml, hnL, hown, hts, hK, hZ, hA, hR, hlk⟩ := E
  intro H locs ls hP hD hS hl
  exact lv_astore hx hb hdg hl (by rw [hnL]; exact hn) hf (fun ls hl => (kk H locs ls hP hD hS hl))
theorem g_iinc (E : gE d x own cc n rm) {i j : Nat} {k : Int} {a v : Int32} {lv' : List (Nat × Value)} (hdg : decode cc pc = .ok (.iinc i k, 3)) (hj : lv[j]? = some (i, .int a)) (hv : a + Int32.ofInt k = v) (hn : i < n) (hf : (i, Value.int v) :: lv.filter (fun q => !(q.1 == i) && !(q.1 + 1 == i && q.2.category == 2)) = lv') (kk : G d x ws cells slots (pc + 3) lv' (st)) : G d x ws cells slots pc lv (st) := by
  obtain ⟨p, l, e, R, s, m, args, below, meth, c, A, nL, Q⟩ := x
  obtain ⟨hx, hb, hml, hnL, hown, hts, hK, hZ, hA, hR, hlk⟩ := E
  intro H locs ls hP hD hS hl
  exact lv_iinc hx hb hdg hl hj hv (by rw [hnL]; exact hn) hf (fun ls hl => (kk H locs ls hP hD hS hl))
theorem g_iadd (E : gE d x own cc n rm) {a b : Int32} (hdg : decode cc pc = .ok (.iadd, 1))  (kk : G d x ws cells slots (pc + 1) lv (.int (a + b) :: st)) : G d x ws cells slots pc lv (.int b :: .int a :: st) := by
  obtain ⟨p, l, e, R, s, m, args, below, meth, c, A, nL, Q⟩ := x
  obtain ⟨hx, hb, hml, hnL, hown, hts, hK, hZ, hA, hR, hlk⟩ := E
  intro H locs ls hP hD hS hl
  exact lv_iadd hx hb hdg (kk H locs ls hP hD hS hl)
theorem g_isub (E : gE d x own cc n rm) {a b : Int32} (hdg : decode cc pc = .ok (.isub, 1))  (kk : G d x ws cells slots (pc + 1) lv (.int (a - b) :: st)) : G d x ws cells slots pc lv (.int b :: .int a :: st) := by
  obtain ⟨p, l, e, R, s, m, args, below, meth, c, A, nL, Q⟩ := x
  obtain ⟨hx, hb, hml, hnL, hown, hts, hK, hZ, hA, hR, hlk⟩ := E
  intro H locs ls hP hD hS hl
  exact lv_isub hx hb hdg (kk H locs ls hP hD hS hl)
theorem g_imul (E : gE d x own cc n rm) {a b : Int32} (hdg : decode cc pc = .ok (.imul, 1))  (kk : G d x ws cells slots (pc + 1) lv (.int (a * b) :: st)) : G d x ws cells slots pc lv (.int b :: .int a :: st) := by
  obtain ⟨p, l, e, R, s, m, args, below, meth, c, A, nL, Q⟩ := x
  obtain ⟨hx, hb, hml, hnL, hown, hts, hK, hZ, hA, hR, hlk⟩ := E
  intro H locs ls hP hD hS hl
  exact lv_imul hx hb hdg (kk H locs ls hP hD hS hl)
theorem g_idiv (E : gE d x own cc n rm) {a b : Int32} (hdg : decode cc pc = .ok (.idiv, 1)) (hne : ¬ b = 0) (kk : G d x ws cells slots (pc + 1) lv (.int (a / b) :: st)) : G d x ws cells slots pc lv (.int b :: .int a :: st) := by
  obtain ⟨p, l, e, R, s, m, args, below, meth, c, A, nL, Q⟩ := x
  obtain ⟨hx, hb, hml, hnL, hown, hts, hK, hZ, hA, hR, hlk⟩ := E
  intro H locs ls hP hD hS hl
  exact lv_idiv hx hb hdg hne (kk H locs ls hP hD hS hl)
theorem g_irem (E : gE d x own cc n rm) {a b : Int32} (hdg : decode cc pc = .ok (.irem, 1)) (hne : ¬ b = 0) (kk : G d x ws cells slots (pc + 1) lv (.int (a - a / b * b) :: st)) : G d x ws cells slots pc lv (.int b :: .int a :: st) := by
  obtain ⟨p, l, e, R, s, m, args, below, meth, c, A, nL, Q⟩ := x
  obtain ⟨hx, hb, hml, hnL, hown, hts, hK, hZ, hA, hR, hlk⟩ := E
  intro H locs ls hP hD hS hl
  exact lv_irem hx hb hdg hne (kk H locs ls hP hD hS hl)
theorem g_iand (E : gE d x own cc n rm) {a b : Int32} (hdg : decode cc pc = .ok (.iand, 1))  (kk : G d x ws cells slots (pc + 1) lv (.int (a &&& b) :: st)) : G d x ws cells slots pc lv (.int b :: .int a :: st) := by
  obtain ⟨p, l, e, R, s, m, args, below, meth, c, A, nL, Q⟩ := x
  obtain ⟨hx, hb, hml, hnL, hown, hts, hK, hZ, hA, hR, hlk⟩ := E
  intro H locs ls hP hD hS hl
  exact lv_iand hx hb hdg (kk H locs ls hP hD hS hl)
theorem g_ior (E : gE d x own cc n rm) {a b : Int32} (hdg : decode cc pc = .ok (.ior, 1))  (kk : G d x ws cells slots (pc + 1) lv (.int (a ||| b) :: st)) : G d x ws cells slots pc lv (.int b :: .int a :: st) := by
  obtain ⟨p, l, e, R, s, m, args, below, meth, c, A, nL, Q⟩ := x
  obtain ⟨hx, hb, hml, hnL, hown, hts, hK, hZ, hA, hR, hlk⟩ := E
  intro H locs ls hP hD hS hl
  exact lv_ior hx hb hdg (kk H locs ls hP hD hS hl)
theorem g_ixor (E : gE d x own cc n rm) {a b : Int32} (hdg : decode cc pc = .ok (.ixor, 1))  (kk : G d x ws cells slots (pc + 1) lv (.int (a ^^^ b) :: st)) : G d x ws cells slots pc lv (.int b :: .int a :: st) := by
  obtain ⟨p, l, e, R, s, m, args, below, meth, c, A, nL, Q⟩ := x
  obtain ⟨hx, hb, hml, hnL, hown, hts, hK, hZ, hA, hR, hlk⟩ := E
  intro H locs ls hP hD hS hl
  exact lv_ixor hx hb hdg (kk H locs ls hP hD hS hl)
theorem g_ishl (E : gE d x own cc n rm) {a b : Int32} (hdg : decode cc pc = .ok (.ishl, 1))  (kk : G d x ws cells slots (pc + 1) lv (.int (a <<< (b &&& 31)) :: st)) : G d x ws cells slots pc lv (.int b :: .int a :: st) := by
  obtain ⟨p, l, e, R, s, m, args, below, meth, c, A, nL, Q⟩ := x
  obtain ⟨hx, hb, hml, hnL, hown, hts, hK, hZ, hA, hR, hlk⟩ := E
  intro H locs ls hP hD hS hl
  exact lv_ishl hx hb hdg (kk H locs ls hP hD hS hl)
theorem g_ishr (E : gE d x own cc n rm) {a b : Int32} (hdg : decode cc pc = .ok (.ishr, 1))  (kk : G d x ws cells slots (pc + 1) lv (.int (a >>> (b &&& 31)) :: st)) : G d x ws cells slots pc lv (.int b :: .int a :: st) := by
  obtain ⟨p, l, e, R, s, m, args, below, meth, c, A, nL, Q⟩ := x
  obtain ⟨hx, hb, hml, hnL, hown, hts, hK, hZ, hA, hR, hlk⟩ := E
  intro H locs ls hP hD hS hl
  exact lv_ishr hx hb hdg (kk H locs ls hP hD hS hl)
theorem g_ineg (E : gE d x own cc n rm) {a : Int32} (hdg : decode cc pc = .ok (.ineg, 1)) (kk : G d x ws cells slots (pc + 1) lv (.int (-a) :: st)) : G d x ws cells slots pc lv (.int a :: st) := by
  obtain ⟨p, l, e, R, s, m, args, below, meth, c, A, nL, Q⟩ := x
  obtain ⟨hx, hb, hml, hnL, hown, hts, hK, hZ, hA, hR, hlk⟩ := E
  intro H locs ls hP hD hS hl
  exact lv_ineg hx hb hdg (kk H locs ls hP hD hS hl)
theorem g_i2l (E : gE d x own cc n rm) {a : Int32} (hdg : decode cc pc = .ok (.i2l, 1)) (kk : G d x ws cells slots (pc + 1) lv (.long a.toInt64 :: st)) : G d x ws cells slots pc lv (.int a :: st) := by
  obtain ⟨p, l, e, R, s, m, args, below, meth, c, A, nL, Q⟩ := x
  obtain ⟨hx, hb, hml, hnL, hown, hts, hK, hZ, hA, hR, hlk⟩ := E
  intro H locs ls hP hD hS hl
  exact lv_i2l hx hb hdg rfl (kk H locs ls hP hD hS hl)
theorem g_l2i (E : gE d x own cc n rm) {a : Int64} (hdg : decode cc pc = .ok (.l2i, 1)) (kk : G d x ws cells slots (pc + 1) lv (.int a.toInt32 :: st)) : G d x ws cells slots pc lv (.long a :: st) := by
  obtain ⟨p, l, e, R, s, m, args, below, meth, c, A, nL, Q⟩ := x
  obtain ⟨hx, hb, hml, hnL, hown, hts, hK, hZ, hA, hR, hlk⟩ := E
  intro H locs ls hP hD hS hl
  exact lv_l2i hx hb hdg rfl (kk H locs ls hP hD hS hl)
theorem g_i2c (E : gE d x own cc n rm) {a : Int32} (hdg : decode cc pc = .ok (.i2c, 1)) (kk : G d x ws cells slots (pc + 1) lv (.int (a.toUInt32 % 65536).toInt32 :: st)) : G d x ws cells slots pc lv (.int a :: st) := by
  obtain ⟨p, l, e, R, s, m, args, below, meth, c, A, nL, Q⟩ := x
  obtain ⟨hx, hb, hml, hnL, hown, hts, hK, hZ, hA, hR, hlk⟩ := E
  intro H locs ls hP hD hS hl
  exact lv_i2c hx hb hdg rfl (kk H locs ls hP hD hS hl)
theorem g_land (E : gE d x own cc n rm) {a b : Int64} (hdg : decode cc pc = .ok (.land, 1)) (kk : G d x ws cells slots (pc + 1) lv (.long (a &&& b) :: st)) : G d x ws cells slots pc lv (.long b :: .long a :: st) := by
  obtain ⟨p, l, e, R, s, m, args, below, meth, c, A, nL, Q⟩ := x
  obtain ⟨hx, hb, hml, hnL, hown, hts, hK, hZ, hA, hR, hlk⟩ := E
  intro H locs ls hP hD hS hl
  exact lv_land hx hb hdg (kk H locs ls hP hD hS hl)
theorem g_lor (E : gE d x own cc n rm) {a b : Int64} (hdg : decode cc pc = .ok (.lor, 1)) (kk : G d x ws cells slots (pc + 1) lv (.long (a ||| b) :: st)) : G d x ws cells slots pc lv (.long b :: .long a :: st) := by
  obtain ⟨p, l, e, R, s, m, args, below, meth, c, A, nL, Q⟩ := x
  obtain ⟨hx, hb, hml, hnL, hown, hts, hK, hZ, hA, hR, hlk⟩ := E
  intro H locs ls hP hD hS hl
  exact lv_lor hx hb hdg (kk H locs ls hP hD hS hl)
theorem g_lushr (E : gE d x own cc n rm) {a : Int64} {b : Int32} (hdg : decode cc pc = .ok (.lushr, 1)) (kk : G d x ws cells slots (pc + 1) lv (.long ((a.toUInt64 >>> (b.toInt64.toUInt64 &&& Int64.toUInt64 63)).toInt64) :: st)) : G d x ws cells slots pc lv (.int b :: .long a :: st) := by
  obtain ⟨p, l, e, R, s, m, args, below, meth, c, A, nL, Q⟩ := x
  obtain ⟨hx, hb, hml, hnL, hown, hts, hK, hZ, hA, hR, hlk⟩ := E
  intro H locs ls hP hD hS hl
  exact lv_lushr hx hb hdg rfl (kk H locs ls hP hD hS hl)
theorem g_lshl (E : gE d x own cc n rm) {a : Int64} {b : Int32} (hdg : decode cc pc = .ok (.lshl, 1)) (kk : G d x ws cells slots (pc + 1) lv (.long (a <<< (b.toInt64 &&& 63)) :: st)) : G d x ws cells slots pc lv (.int b :: .long a :: st) := by
  obtain ⟨p, l, e, R, s, m, args, below, meth, c, A, nL, Q⟩ := x
  obtain ⟨hx, hb, hml, hnL, hown, hts, hK, hZ, hA, hR, hlk⟩ := E
  intro H locs ls hP hD hS hl
  exact lv_lshl hx hb hdg rfl (kk H locs ls hP hD hS hl)
theorem g_lshr (E : gE d x own cc n rm) {a : Int64} {b : Int32} (hdg : decode cc pc = .ok (.lshr, 1)) (kk : G d x ws cells slots (pc + 1) lv (.long (a >>> (b.toInt64 &&& 63)) :: st)) : G d x ws cells slots pc lv (.int b :: .long a :: st) := by
  obtain ⟨p, l, e, R, s, m, args, below, meth, c, A, nL, Q⟩ := x
  obtain ⟨hx, hb, hml, hnL, hown, hts, hK, hZ, hA, hR, hlk⟩ := E
  intro H locs ls hP hD hS hl
  exact lv_lshr hx hb hdg rfl (kk H locs ls hP hD hS hl)
theorem g_lcmp (E : gE d x own cc n rm) {a b : Int64} (hdg : decode cc pc = .ok (.lcmp, 1)) (kk : G d x ws cells slots (pc + 1) lv (.int (lg_cmp a b) :: st)) : G d x ws cells slots pc lv (.long b :: .long a :: st) := by
  obtain ⟨p, l, e, R, s, m, args, below, meth, c, A, nL, Q⟩ := x
  obtain ⟨hx, hb, hml, hnL, hown, hts, hK, hZ, hA, hR, hlk⟩ := E
  intro H locs ls hP hD hS hl
  exact W.lcmp hx hb hdg (kk H locs ls hP hD hS hl)
theorem g_dup (E : gE d x own cc n rm) {v : Value} (hdg : decode cc pc = .ok (.dup, 1)) (hc : v.category = 1) (kk : G d x ws cells slots (pc + 1) lv (v :: v :: st)) : G d x ws cells slots pc lv (v :: st) := by
  obtain ⟨p, l, e, R, s, m, args, below, meth, c, A, nL, Q⟩ := x
  obtain ⟨hx, hb, hml, hnL, hown, hts, hK, hZ, hA, hR, hlk⟩ := E
  intro H locs ls hP hD hS hl
  exact lv_dup hx hb hdg hc (kk H locs ls hP hD hS hl)
theorem g_dup2 (E : gE d x own cc n rm) {v w : Value} (hdg : decode cc pc = .ok (.dup2, 1)) (hc : v.category = 1) (hc2 : w.category = 1) (kk : G d x ws cells slots (pc + 1) lv (v :: w :: v :: w :: st)) : G d x ws cells slots pc lv (v :: w :: st) := by
  obtain ⟨p, l, e, R, s, m, args, below, meth, c, A, nL, Q⟩ := x
  obtain ⟨hx, hb, hml, hnL, hown, hts, hK, hZ, hA, hR, hlk⟩ := E
  intro H locs ls hP hD hS hl
  exact lv_dup2_11 hx hb hdg hc hc2 (kk H locs ls hP hD hS hl)
theorem g_pop (E : gE d x own cc n rm) {v : Value} (hdg : decode cc pc = .ok (.pop, 1)) (hc : v.category = 1) (kk : G d x ws cells slots (pc + 1) lv (st)) : G d x ws cells slots pc lv (v :: st) := by
  obtain ⟨p, l, e, R, s, m, args, below, meth, c, A, nL, Q⟩ := x
  obtain ⟨hx, hb, hml, hnL, hown, hts, hK, hZ, hA, hR, hlk⟩ := E
  intro H locs ls hP hD hS hl
  exact lv_pop hx hb hdg hc (kk H locs ls hP hD hS hl)
theorem g_ifeq (E : gE d x own cc n rm) {a : Int32} {off : Int} (tgt : Nat) (hdg : decode cc pc = .ok (.ifCond .eq off, 3)) (ht : (pc : Int) + off = (tgt : Int)) (kt : a = 0 → G d x ws cells slots tgt lv (st)) (kf : ¬ a = 0 → G d x ws cells slots (pc + 3) lv (st)) : G d x ws cells slots pc lv (.int a :: st) := by
  obtain ⟨p, l, e, R, s, m, args, below, meth, c, A, nL, Q⟩ := x
  obtain ⟨hx, hb, hml, hnL, hown, hts, hK, hZ, hA, hR, hlk⟩ := E
  intro H locs ls hP hD hS hl
  exact lv_if_eq hx hb hdg ht (fun q => kt (q) H locs ls hP hD hS hl) (fun q => kf (q) H locs ls hP hD hS hl)
theorem g_ifne (E : gE d x own cc n rm) {a : Int32} {off : Int} (tgt : Nat) (hdg : decode cc pc = .ok (.ifCond .ne off, 3)) (ht : (pc : Int) + off = (tgt : Int)) (kt : ¬ a = 0 → G d x ws cells slots tgt lv (st)) (kf : a = 0 → G d x ws cells slots (pc + 3) lv (st)) : G d x ws cells slots pc lv (.int a :: st) := by
  obtain ⟨p, l, e, R, s, m, args, below, meth, c, A, nL, Q⟩ := x
  obtain ⟨hx, hb, hml, hnL, hown, hts, hK, hZ, hA, hR, hlk⟩ := E
  intro H locs ls hP hD hS hl
  exact lv_if_ne hx hb hdg ht (fun q => kt (q) H locs ls hP hD hS hl) (fun q => kf (q) H locs ls hP hD hS hl)
theorem g_iflt (E : gE d x own cc n rm) {a : Int32} {off : Int} (tgt : Nat) (hdg : decode cc pc = .ok (.ifCond .lt off, 3)) (ht : (pc : Int) + off = (tgt : Int)) (kt : a < 0 → G d x ws cells slots tgt lv (st)) (kf : ¬ a < 0 → G d x ws cells slots (pc + 3) lv (st)) : G d x ws cells slots pc lv (.int a :: st) := by
  obtain ⟨p, l, e, R, s, m, args, below, meth, c, A, nL, Q⟩ := x
  obtain ⟨hx, hb, hml, hnL, hown, hts, hK, hZ, hA, hR, hlk⟩ := E
  intro H locs ls hP hD hS hl
  exact lv_if_lt hx hb hdg ht (fun q => kt (q) H locs ls hP hD hS hl) (fun q => kf (q) H locs ls hP hD hS hl)
theorem g_ifge (E : gE d x own cc n rm) {a : Int32} {off : Int} (tgt : Nat) (hdg : decode cc pc = .ok (.ifCond .ge off, 3)) (ht : (pc : Int) + off = (tgt : Int)) (kt : ¬ a < 0 → G d x ws cells slots tgt lv (st)) (kf : a < 0 → G d x ws cells slots (pc + 3) lv (st)) : G d x ws cells slots pc lv (.int a :: st) := by
  obtain ⟨p, l, e, R, s, m, args, below, meth, c, A, nL, Q⟩ := x
  obtain ⟨hx, hb, hml, hnL, hown, hts, hK, hZ, hA, hR, hlk⟩ := E
  intro H locs ls hP hD hS hl
  exact lv_if_ge hx hb hdg ht (fun q => kt (Int32.not_lt.mpr q) H locs ls hP hD hS hl) (fun q => kf (Int32.not_le.mp q) H locs ls hP hD hS hl)
theorem g_ifgt (E : gE d x own cc n rm) {a : Int32} {off : Int} (tgt : Nat) (hdg : decode cc pc = .ok (.ifCond .gt off, 3)) (ht : (pc : Int) + off = (tgt : Int)) (kt : 0 < a → G d x ws cells slots tgt lv (st)) (kf : ¬ 0 < a → G d x ws cells slots (pc + 3) lv (st)) : G d x ws cells slots pc lv (.int a :: st) := by
  obtain ⟨p, l, e, R, s, m, args, below, meth, c, A, nL, Q⟩ := x
  obtain ⟨hx, hb, hml, hnL, hown, hts, hK, hZ, hA, hR, hlk⟩ := E
  intro H locs ls hP hD hS hl
  exact lv_if_gt hx hb hdg ht (fun q => kt (q) H locs ls hP hD hS hl) (fun q => kf (q) H locs ls hP hD hS hl)
theorem g_ifle (E : gE d x own cc n rm) {a : Int32} {off : Int} (tgt : Nat) (hdg : decode cc pc = .ok (.ifCond .le off, 3)) (ht : (pc : Int) + off = (tgt : Int)) (kt : ¬ 0 < a → G d x ws cells slots tgt lv (st)) (kf : 0 < a → G d x ws cells slots (pc + 3) lv (st)) : G d x ws cells slots pc lv (.int a :: st) := by
  obtain ⟨p, l, e, R, s, m, args, below, meth, c, A, nL, Q⟩ := x
  obtain ⟨hx, hb, hml, hnL, hown, hts, hK, hZ, hA, hR, hlk⟩ := E
  intro H locs ls hP hD hS hl
  exact lv_if_le hx hb hdg ht (fun q => kt (Int32.not_lt.mpr q) H locs ls hP hD hS hl) (fun q => kf (Int32.not_le.mp q) H locs ls hP hD hS hl)
theorem g_icmpeq (E : gE d x own cc n rm) {a b : Int32} {off : Int} (tgt : Nat) (hdg : decode cc pc = .ok (.if_icmp .eq off, 3)) (ht : (pc : Int) + off = (tgt : Int)) (kt : a = b → G d x ws cells slots tgt lv (st)) (kf : ¬ a = b → G d x ws cells slots (pc + 3) lv (st)) : G d x ws cells slots pc lv (.int b :: .int a :: st) := by
  obtain ⟨p, l, e, R, s, m, args, below, meth, c, A, nL, Q⟩ := x
  obtain ⟨hx, hb, hml, hnL, hown, hts, hK, hZ, hA, hR, hlk⟩ := E
  intro H locs ls hP hD hS hl
  exact lv_icmp_eq hx hb hdg ht (fun q => kt (q) H locs ls hP hD hS hl) (fun q => kf (q) H locs ls hP hD hS hl)
theorem g_icmpne (E : gE d x own cc n rm) {a b : Int32} {off : Int} (tgt : Nat) (hdg : decode cc pc = .ok (.if_icmp .ne off, 3)) (ht : (pc : Int) + off = (tgt : Int)) (kt : ¬ a = b → G d x ws cells slots tgt lv (st)) (kf : a = b → G d x ws cells slots (pc + 3) lv (st)) : G d x ws cells slots pc lv (.int b :: .int a :: st) := by
  obtain ⟨p, l, e, R, s, m, args, below, meth, c, A, nL, Q⟩ := x
  obtain ⟨hx, hb, hml, hnL, hown, hts, hK, hZ, hA, hR, hlk⟩ := E
  intro H locs ls hP hD hS hl
  exact lv_icmp_ne hx hb hdg ht (fun q => kt (q) H locs ls hP hD hS hl) (fun q => kf (q) H locs ls hP hD hS hl)
theorem g_icmplt (E : gE d x own cc n rm) {a b : Int32} {off : Int} (tgt : Nat) (hdg : decode cc pc = .ok (.if_icmp .lt off, 3)) (ht : (pc : Int) + off = (tgt : Int)) (kt : a < b → G d x ws cells slots tgt lv (st)) (kf : ¬ a < b → G d x ws cells slots (pc + 3) lv (st)) : G d x ws cells slots pc lv (.int b :: .int a :: st) := by
  obtain ⟨p, l, e, R, s, m, args, below, meth, c, A, nL, Q⟩ := x
  obtain ⟨hx, hb, hml, hnL, hown, hts, hK, hZ, hA, hR, hlk⟩ := E
  intro H locs ls hP hD hS hl
  exact lv_icmp_lt hx hb hdg ht (fun q => kt (q) H locs ls hP hD hS hl) (fun q => kf (q) H locs ls hP hD hS hl)
theorem g_icmpge (E : gE d x own cc n rm) {a b : Int32} {off : Int} (tgt : Nat) (hdg : decode cc pc = .ok (.if_icmp .ge off, 3)) (ht : (pc : Int) + off = (tgt : Int)) (kt : ¬ a < b → G d x ws cells slots tgt lv (st)) (kf : a < b → G d x ws cells slots (pc + 3) lv (st)) : G d x ws cells slots pc lv (.int b :: .int a :: st) := by
  obtain ⟨p, l, e, R, s, m, args, below, meth, c, A, nL, Q⟩ := x
  obtain ⟨hx, hb, hml, hnL, hown, hts, hK, hZ, hA, hR, hlk⟩ := E
  intro H locs ls hP hD hS hl
  exact lv_icmp_ge hx hb hdg ht (fun q => kt (Int32.not_lt.mpr q) H locs ls hP hD hS hl) (fun q => kf (Int32.not_le.mp q) H locs ls hP hD hS hl)
theorem g_icmpgt (E : gE d x own cc n rm) {a b : Int32} {off : Int} (tgt : Nat) (hdg : decode cc pc = .ok (.if_icmp .gt off, 3)) (ht : (pc : Int) + off = (tgt : Int)) (kt : b < a → G d x ws cells slots tgt lv (st)) (kf : ¬ b < a → G d x ws cells slots (pc + 3) lv (st)) : G d x ws cells slots pc lv (.int b :: .int a :: st) := by
  obtain ⟨p, l, e, R, s, m, args, below, meth, c, A, nL, Q⟩ := x
  obtain ⟨hx, hb, hml, hnL, hown, hts, hK, hZ, hA, hR, hlk⟩ := E
  intro H locs ls hP hD hS hl
  exact lv_icmp_gt hx hb hdg ht (fun q => kt (q) H locs ls hP hD hS hl) (fun q => kf (q) H locs ls hP hD hS hl)
theorem g_icmple (E : gE d x own cc n rm) {a b : Int32} {off : Int} (tgt : Nat) (hdg : decode cc pc = .ok (.if_icmp .le off, 3)) (ht : (pc : Int) + off = (tgt : Int)) (kt : ¬ b < a → G d x ws cells slots tgt lv (st)) (kf : b < a → G d x ws cells slots (pc + 3) lv (st)) : G d x ws cells slots pc lv (.int b :: .int a :: st) := by
  obtain ⟨p, l, e, R, s, m, args, below, meth, c, A, nL, Q⟩ := x
  obtain ⟨hx, hb, hml, hnL, hown, hts, hK, hZ, hA, hR, hlk⟩ := E
  intro H locs ls hP hD hS hl
  exact lv_icmp_le hx hb hdg ht (fun q => kt (Int32.not_lt.mpr q) H locs ls hP hD hS hl) (fun q => kf (Int32.not_le.mp q) H locs ls hP hD hS hl)
theorem g_goto (E : gE d x own cc n rm) {off : Int} (tgt : Nat) (hdg : decode cc pc = .ok (.goto off, 3)) (ht : (pc : Int) + off = (tgt : Int)) (kk : G d x ws cells slots tgt lv (st)) : G d x ws cells slots pc lv (st) := by
  obtain ⟨p, l, e, R, s, m, args, below, meth, c, A, nL, Q⟩ := x
  obtain ⟨hx, hb, hml, hnL, hown, hts, hK, hZ, hA, hR, hlk⟩ := E
  intro H locs ls hP hD hS hl
  exact lv_goto hx hb hdg ht (kk H locs ls hP hD hS hl)
theorem g_ifnonnull (E : gE d x own cc n rm) {a : Nat} {off : Int} (tgt : Nat) (hdg : decode cc pc = .ok (.ifnonnull off, 3)) (ht : (pc : Int) + off = (tgt : Int)) (kk : G d x ws cells slots tgt lv (st)) : G d x ws cells slots pc lv (.ref a :: st) := by
  obtain ⟨p, l, e, R, s, m, args, below, meth, c, A, nL, Q⟩ := x
  obtain ⟨hx, hb, hml, hnL, hown, hts, hK, hZ, hA, hR, hlk⟩ := E
  intro H locs ls hP hD hS hl
  exact lv_ifnonnull hx hb hdg ht (kk H locs ls hP hD hS hl)
theorem g_ifnonnullN (E : gE d x own cc n rm) {off : Int} (hdg : decode cc pc = .ok (.ifnonnull off, 3)) (kk : G d x ws cells slots (pc + 3) lv (st)) : G d x ws cells slots pc lv (.null :: st) := by
  obtain ⟨p, l, e, R, s, m, args, below, meth, c, A, nL, Q⟩ := x
  obtain ⟨hx, hb, hml, hnL, hown, hts, hK, hZ, hA, hR, hlk⟩ := E
  intro H locs ls hP hD hS hl
  exact lv_ifnonnullN hx hb hdg (kk H locs ls hP hD hS hl)
theorem g_aload_nN (E : gE d x own cc n rm) {k : Fin 4} {i : Nat} (j : Nat) (hdg : decode cc pc = .ok (.aload_n k, 1)) (hi : (k : Nat) = i) (hj : lv[j]? = some (i, .null)) (kk : G d x ws cells slots (pc + 1) lv (.null :: st)) : G d x ws cells slots pc lv (st) := by
  obtain ⟨p, l, e, R, s, m, args, below, meth, c, A, nL, Q⟩ := x
  obtain ⟨hx, hb, hml, hnL, hown, hts, hK, hZ, hA, hR, hlk⟩ := E
  intro H locs ls hP hD hS hl
  exact lv_aload_nN hx hb hdg hi (lv_at hl j hj) (kk H locs ls hP hD hS hl)
theorem g_astore_nN (E : gE d x own cc n rm) {k : Fin 4} {i : Nat} {lv' : List (Nat × Value)} (hdg : decode cc pc = .ok (.astore_n k, 1)) (hi : (k : Nat) = i) (hn : i < n) (hf : (i, Value.null) :: lv.filter (fun q => !(q.1 == i) && !(q.1 + 1 == i && q.2.category == 2)) = lv') (kk : G d x ws cells slots (pc + 1) lv' (st)) : G d x ws cells slots pc lv (.null :: st) := by
  obtain ⟨p, l, e, R, s, m, args, below, meth, c, A, nL, Q⟩ := x
  obtain ⟨hx, hb, hml, hnL, hown, hts, hK, hZ, hA, hR, hlk⟩ := E
  intro H locs ls hP hD hS hl
  exact lv_astore_nN hx hb hdg hi hl (by rw [hnL]; exact hn) hf (fun ls hl => (kk H locs ls hP hD hS hl))
theorem g_lookup (E : gE d x own cc n rm) {dflt : Int} {ps : Array (Int × Int)} {len : Nat} {a : Int32} {off : Int} (tgt : Nat) (hdg : decode cc pc = .ok (.lookupswitch dflt ps, len)) (hp : (ps.toList.zip (ps.toList.drop 1)).all (fun (a, next) => a.1 < next.1) = true) (ho : Op.lookupswitch.offset ps.toList dflt a.toInt = off) (ht : (pc : Int) + off = (tgt : Int)) (kk : G d x ws cells slots tgt lv (st)) : G d x ws cells slots pc lv (.int a :: st) := by
  obtain ⟨p, l, e, R, s, m, args, below, meth, c, A, nL, Q⟩ := x
  obtain ⟨hx, hb, hml, hnL, hown, hts, hK, hZ, hA, hR, hlk⟩ := E
  intro H locs ls hP hD hS hl
  exact lv_lookup hx hb hdg hp ho ht (kk H locs ls hP hD hS hl)
theorem g_tableOut (E : gE d x own cc n rm) {dflt lo hi : Int} {offs : Array Int} {len : Nat} {a : Int32} (tgt : Nat) (hdg : decode cc pc = .ok (.tableswitch dflt lo hi offs, len)) (h : a.toInt < lo ∨ hi < a.toInt) (ht : (pc : Int) + dflt = (tgt : Int)) (kk : G d x ws cells slots tgt lv (st)) : G d x ws cells slots pc lv (.int a :: st) := by
  obtain ⟨p, l, e, R, s, m, args, below, meth, c, A, nL, Q⟩ := x
  obtain ⟨hx, hb, hml, hnL, hown, hts, hK, hZ, hA, hR, hlk⟩ := E
  intro H locs ls hP hD hS hl
  exact lv_tableOut hx hb hdg h ht (kk H locs ls hP hD hS hl)
theorem g_tableIn (E : gE d x own cc n rm) {dflt lo hi : Int} {offs : Array Int} {len : Nat} {a : Int32} {off : Int} (tgt : Nat) (hdg : decode cc pc = .ok (.tableswitch dflt lo hi offs, len)) (h1 : ¬ a.toInt < lo) (h2 : ¬ hi < a.toInt) (ho : offs[(a.toInt - lo).toNat]? = some off) (ht : (pc : Int) + off = (tgt : Int)) (kk : G d x ws cells slots tgt lv (st)) : G d x ws cells slots pc lv (.int a :: st) := by
  obtain ⟨p, l, e, R, s, m, args, below, meth, c, A, nL, Q⟩ := x
  obtain ⟨hx, hb, hml, hnL, hown, hts, hK, hZ, hA, hR, hlk⟩ := E
  intro H locs ls hP hD hS hl
  exact lv_tableIn hx hb hdg h1 h2 ho ht (kk H locs ls hP hD hS hl)
theorem g_get (E : gE d x own cc n rm) {ref C : String} {T : u_T} {N ci index a : Nat} {fs : List Value} (hin : ∀ w ∈ u_ws C T N, w ∈ wsL_law) (q0 : Nat) (he : ws[q0]? = some (a, .inr (ci, fs))) (hc : vwCl[ci]? = some (C, T, N)) (k : Nat) (hk : k < N) (hlink : Cond.fieldLink own index ref (T k).2.1 (T k).2.2.1 ∈ wsL_law) (href : (T k).1 = ref) (v : Value) (hv : fs[k]? = some v) (hdg : decode cc pc = .ok (.getfield index, 3)) (kk : G d x ws cells slots (pc + 3) lv (v :: st)) : G d x ws cells slots pc lv (.ref a :: st) := by
  obtain ⟨p, l, e, R, s, m, args, below, meth, c, A, nL, Q⟩ := x
  obtain ⟨hx, hb, hml, hnL, hown, hts, hK, hZ, hA, hR, hlk⟩ := E
  intro H locs ls hP hD hS hl
  exact va_get hx hb hts hin hown hK.1 hP q0 he hc k hk (hts _ hlink) (fun _ h9 => by rw [← href]; exact h9) hv hdg (kk H locs ls hP hD hS hl)
theorem g_getN (E : gE d x own cc n rm) {ref C : String} {T : u_T} {N ci index a : Nat} {fs : List Value} (hin : ∀ w ∈ u_ws C T N, w ∈ wsL_law) (q0 : Nat) (he : ws[q0]? = some (a, .inr (ci, fs))) (hc : vwCl[ci]? = some (C, T, N)) (k : Nat) (hk : k < N) {host : String} (hlink : Cond.fieldLinkNest own index ref (T k).2.1 (T k).2.2.1 host ∈ gNest) (href : (T k).1 = ref) (v : Value) (hv : fs[k]? = some v) (hdg : decode cc pc = .ok (.getfield index, 3)) (kk : G d x ws cells slots (pc + 3) lv (v :: st)) : G d x ws cells slots pc lv (.ref a :: st) := by
  obtain ⟨p, l, e, R, s, m, args, below, meth, c, A, nL, Q⟩ := x
  obtain ⟨hx, hb, hml, hnL, hown, hts, hK, hZ, hA, hR, hlk⟩ := E
  intro H locs ls hP hD hS hl
  exact va_getN hx hb hts hin hown hK.1 hP q0 he hc k hk (va_Nw.use rfl (hK.2.2.2 _ hlink)) (fun _ h9 => by rw [← href]; exact h9) hv hdg (kk H locs ls hP hD hS hl)
theorem g_put (E : gE d x own cc n rm) {ref C : String} {T : u_T} {N ci index a : Nat} {fs : List Value} (hin : ∀ w ∈ u_ws C T N, w ∈ wsL_law) (q0 : Nat) (he : ws[q0]? = some (a, .inr (ci, fs))) (hc : vwCl[ci]? = some (C, T, N)) (k : Nat) (hk : k < N) (ty0 : Nat → FieldType) (hty : ∀ k, k < N → parseFieldDescriptor (T k).2.2.1 = some (ty0 k)) (hnm : ∀ a, a < N → ∀ b, b < N → a ≠ b → (T a).2.1 ≠ (T b).2.1) (hlink : Cond.fieldLink own index ref (T k).2.1 (T k).2.2.1 ∈ wsL_law) (href : (T k).1 = ref) (hfin : (T k).2.2.2 = false) {v : Value} (hn : narrow (ty0 k) v = v) (hfit : fits (ty0 k) v = true) (hl0 : k < fs.length) {ws' : va_W} (hws : ws.set q0 (a, .inr (ci, fs.set k v)) = ws') (hdg : decode cc pc = .ok (.putfield index, 3)) (kk : G d x ws' cells slots (pc + 3) lv (st)) : G d x ws cells slots pc lv (v :: .ref a :: st) := by
  obtain ⟨p, l, e, R, s, m, args, below, meth, c, A, nL, Q⟩ := x
  obtain ⟨hx, hb, hml, hnL, hown, hts, hK, hZ, hA, hR, hlk⟩ := E
  intro H locs ls hP hD hS hl
  exact va_put hx hb hts hin ty0 hty hnm hown hK.1 hP hD hS q0 he hc k hk (hts _ hlink) (fun _ h9 => by rw [← href]; exact h9) hfin (hty k hk) hn hfit hl0 hdg (fun H locs hP hD hS => by rw [hws] at hP hD; exact kk H locs ls hP hD hS hl)
theorem g_putF (E : gE d x own cc n rm) {ref C : String} {T : u_T} {N ci index a : Nat} {fs : List Value} (hin : ∀ w ∈ u_ws C T N, w ∈ wsL_law) (q0 : Nat) (he : ws[q0]? = some (a, .inr (ci, fs))) (hc : vwCl[ci]? = some (C, T, N)) (k : Nat) (hk : k < N) (ty0 : Nat → FieldType) (hty : ∀ k, k < N → parseFieldDescriptor (T k).2.2.1 = some (ty0 k)) (hnm : ∀ a, a < N → ∀ b, b < N → a ≠ b → (T a).2.1 ≠ (T b).2.1) (hi : gInit x) (hlink : Cond.fieldLink own index ref (T k).2.1 (T k).2.2.1 ∈ wsL_law) (href : (T k).1 = ref) (hfin : (T k).2.2.2 = true) (hown2 : (T k).1 = own) {v : Value} (hn : narrow (ty0 k) v = v) (hfit : fits (ty0 k) v = true) (hl0 : k < fs.length) {ws' : va_W} (hws : ws.set q0 (a, .inr (ci, fs.set k v)) = ws') (hdg : decode cc pc = .ok (.putfield index, 3)) (kk : G d x ws' cells slots (pc + 3) lv (st)) : G d x ws cells slots pc lv (v :: .ref a :: st) := by
  obtain ⟨p, l, e, R, s, m, args, below, meth, c, A, nL, Q⟩ := x
  obtain ⟨hx, hb, hml, hnL, hown, hts, hK, hZ, hA, hR, hlk⟩ := E
  intro H locs ls hP hD hS hl
  exact va_putF hx hb hts hin ty0 hty hnm hown hK.1 hP hD hS q0 he hc k hk (hts _ hlink) (fun _ h9 => by rw [← href]; exact h9) hfin hi hown2 (hty k hk) hn hfit hl0 hdg (fun H locs hP hD hS => by rw [hws] at hP hD; exact kk H locs ls hP hD hS hl)
theorem g_iald (E : gE d x own cc n rm) {a N : Nat} {cA : ClassId} {f : Nat → Int32} (q0 : Nat) (ha : ws[q0]? = some (a, .inl (cA, N, .inl f))) (ht : (gTys d)[0]? = some (cA, .int)) {i : Int32} (j : Nat) (hi : i = nI j) (hj : j < N) (hN : N < 2 ^ 31) (hdg : decode cc pc = .ok (.iaload, 1)) (kk : G d x ws cells slots (pc + 1) lv (.int (f j) :: st)) : G d x ws cells slots pc lv (.int i :: .ref a :: st) := by
  obtain ⟨p, l, e, R, s, m, args, below, meth, c, A, nL, Q⟩ := x
  obtain ⟨hx, hb, hml, hnL, hown, hts, hK, hZ, hA, hR, hlk⟩ := E
  intro H locs ls hP hD hS hl
  subst hi
  refine va_iald hx hb hK.1 hP q0 0 ha ht (vp_in_nI hj hN) hdg ?_
  rw [nI_clamp (by omega)]
  exact kk H locs ls hP hD hS hl
theorem g_cald (E : gE d x own cc n rm) {a N : Nat} {cA : ClassId} {f : Nat → Int32} (q0 : Nat) (ha : ws[q0]? = some (a, .inl (cA, N, .inl f))) (ht : (gTys d)[1]? = some (cA, .char)) {i : Int32} (j : Nat) (hi : i = nI j) (hj : j < N) (hN : N < 2 ^ 31) (hdg : decode cc pc = .ok (.caload, 1)) (kk : G d x ws cells slots (pc + 1) lv (.int (f j) :: st)) : G d x ws cells slots pc lv (.int i :: .ref a :: st) := by
  obtain ⟨p, l, e, R, s, m, args, below, meth, c, A, nL, Q⟩ := x
  obtain ⟨hx, hb, hml, hnL, hown, hts, hK, hZ, hA, hR, hlk⟩ := E
  intro H locs ls hP hD hS hl
  subst hi
  refine va_cald hx hb hK.1 hP q0 1 ha ht (vp_in_nI hj hN) hdg ?_
  rw [nI_clamp (by omega)]
  exact kk H locs ls hP hD hS hl
theorem g_zald (E : gE d x own cc n rm) {a N : Nat} {cA : ClassId} {f : Nat → Int32} (q0 : Nat) (ha : ws[q0]? = some (a, .inl (cA, N, .inl f))) (ht : (gTys d)[2]? = some (cA, .boolean)) {i : Int32} (j : Nat) (hi : i = nI j) (hj : j < N) (hN : N < 2 ^ 31) (hdg : decode cc pc = .ok (.baload, 1)) (kk : G d x ws cells slots (pc + 1) lv (.int (f j) :: st)) : G d x ws cells slots pc lv (.int i :: .ref a :: st) := by
  obtain ⟨p, l, e, R, s, m, args, below, meth, c, A, nL, Q⟩ := x
  obtain ⟨hx, hb, hml, hnL, hown, hts, hK, hZ, hA, hR, hlk⟩ := E
  intro H locs ls hP hD hS hl
  subst hi
  refine va_zald hx hb hK.1 hP q0 2 ha ht (vp_in_nI hj hN) hdg ?_
  rw [nI_clamp (by omega)]
  exact kk H locs ls hP hD hS hl
theorem g_iast (E : gE d x own cc n rm) {a N : Nat} {cA : ClassId} {f : Nat → Int32} (q0 : Nat) (ha : ws[q0]? = some (a, .inl (cA, N, .inl f))) (ht : (gTys d)[0]? = some (cA, .int)) {i v : Int32} (j : Nat) (hi : i = nI j) (hj : j < N) (hN : N < 2 ^ 31) {ws' : va_W} (hws : ws.set q0 (a, .inl (cA, N, .inl (upd f j v))) = ws') (hdg : decode cc pc = .ok (.iastore, 1)) (kk : G d x ws' cells slots (pc + 1) lv (st)) : G d x ws cells slots pc lv (.int v :: .int i :: .ref a :: st) := by
  obtain ⟨p, l, e, R, s, m, args, below, meth, c, A, nL, Q⟩ := x
  obtain ⟨hx, hb, hml, hnL, hown, hts, hK, hZ, hA, hR, hlk⟩ := E
  intro H locs ls hP hD hS hl
  subst hi
  refine va_iast hx hb hK.1 hP hD hS q0 0 ha ht (vp_in_nI hj hN) hdg (fun H locs hP hD hS => ?_)
  rw [nI_clamp (by omega), hws] at hP hD
  exact kk H locs ls hP hD hS hl
theorem g_cast (E : gE d x own cc n rm) {a N : Nat} {cA : ClassId} {f : Nat → Int32} (q0 : Nat) (ha : ws[q0]? = some (a, .inl (cA, N, .inl f))) (ht : (gTys d)[1]? = some (cA, .char)) {i v : Int32} (j : Nat) (hi : i = nI j) (hj : j < N) (hN : N < 2 ^ 31) {ws' : va_W} (hws : ws.set q0 (a, .inl (cA, N, .inl (upd f j (vp_nar .char v)))) = ws') (hdg : decode cc pc = .ok (.castore, 1)) (kk : G d x ws' cells slots (pc + 1) lv (st)) : G d x ws cells slots pc lv (.int v :: .int i :: .ref a :: st) := by
  obtain ⟨p, l, e, R, s, m, args, below, meth, c, A, nL, Q⟩ := x
  obtain ⟨hx, hb, hml, hnL, hown, hts, hK, hZ, hA, hR, hlk⟩ := E
  intro H locs ls hP hD hS hl
  subst hi
  refine va_cast hx hb hK.1 hP hD hS q0 1 ha ht (vp_in_nI hj hN) hdg (fun H locs hP hD hS => ?_)
  rw [nI_clamp (by omega), hws] at hP hD
  exact kk H locs ls hP hD hS hl
theorem g_zast (E : gE d x own cc n rm) {a N : Nat} {cA : ClassId} {f : Nat → Int32} (q0 : Nat) (ha : ws[q0]? = some (a, .inl (cA, N, .inl f))) (ht : (gTys d)[2]? = some (cA, .boolean)) {i v : Int32} (j : Nat) (hi : i = nI j) (hj : j < N) (hN : N < 2 ^ 31) {ws' : va_W} (hws : ws.set q0 (a, .inl (cA, N, .inl (upd f j (vp_nar .boolean v)))) = ws') (hdg : decode cc pc = .ok (.bastore, 1)) (kk : G d x ws' cells slots (pc + 1) lv (st)) : G d x ws cells slots pc lv (.int v :: .int i :: .ref a :: st) := by
  obtain ⟨p, l, e, R, s, m, args, below, meth, c, A, nL, Q⟩ := x
  obtain ⟨hx, hb, hml, hnL, hown, hts, hK, hZ, hA, hR, hlk⟩ := E
  intro H locs ls hP hD hS hl
  subst hi
  refine va_zast hx hb hK.1 hP hD hS q0 2 ha ht (vp_in_nI hj hN) hdg (fun H locs hP hD hS => ?_)
  rw [nI_clamp (by omega), hws] at hP hD
  exact kk H locs ls hP hD hS hl
theorem g_aald (E : gE d x own cc n rm) {a N : Nat} {cA : ClassId} {f : Nat → Option Nat} (q0 : Nat) (ha : ws[q0]? = some (a, .inl (cA, N, .inr (.inr (.inr (.inr f)))))) (ht : (gTys d)[3]? = some (cA, .object RX3)) {i : Int32} (j : Nat) (hi : i = nI j) (hj : j < N) (hN : N < 2 ^ 31) (hdg : decode cc pc = .ok (.aaload, 1)) (kk : G d x ws cells slots (pc + 1) lv (va_rf (f j) :: st)) : G d x ws cells slots pc lv (.int i :: .ref a :: st) := by
  obtain ⟨p, l, e, R, s, m, args, below, meth, c, A, nL, Q⟩ := x
  obtain ⟨hx, hb, hml, hnL, hown, hts, hK, hZ, hA, hR, hlk⟩ := E
  intro H locs ls hP hD hS hl
  subst hi
  refine va_aldq hx hb hK.1 hP q0 3 ha ht (vp_in_nI hj hN) hdg ?_
  rw [nI_clamp (by omega)]
  exact kk H locs ls hP hD hS hl
theorem g_aast (E : gE d x own cc n rm) {a N b : Nat} {cA : ClassId} {f : Nat → Option Nat} {vs : List Value} (q0 qk : Nat) (ha : ws[q0]? = some (a, .inl (cA, N, .inr (.inr (.inr (.inr f)))))) (ht : (gTys d)[3]? = some (cA, .object RX3)) (hv : ws[qk]? = some (b, .inr (3, vs))) {i : Int32} (j : Nat) (hi : i = nI j) (hj : j < N) (hN : N < 2 ^ 31) {ws' : va_W} (hws : ws.set q0 (a, .inl (cA, N, .inr (.inr (.inr (.inr (va_up f j (some b))))))) = ws') (hdg : decode cc pc = .ok (.aastore, 1)) (kk : G d x ws' cells slots (pc + 1) lv (st)) : G d x ws cells slots pc lv (.ref b :: .int i :: .ref a :: st) := by
  obtain ⟨p, l, e, R, s, m, args, below, meth, c, A, nL, Q⟩ := x
  obtain ⟨hx, hb, hml, hnL, hown, hts, hK, hZ, hA, hR, hlk⟩ := E
  intro H locs ls hP hD hS hl
  subst hi
  refine va_astq hx hb hK.1 hP hD hS q0 3 qk 3 (r := (RX3, TX3, 17)) ha ht hv rfl (vp_in_nI hj hN) hdg (fun H locs hP hD hS => ?_)
  rw [nI_clamp (by omega), hws] at hP hD
  exact kk H locs ls hP hD hS hl
theorem g_alen (E : gE d x own cc n rm) {a : Nat} {cA : ClassId} {y : vp_A} (q0 t0 : Nat) (ha : ws[q0]? = some (a, .inl (cA, y))) {ty : FieldType} (ht : (gTys d)[t0]? = some (cA, ty)) (v : Int32) (hv : Int32.ofNat y.1 = v) (hdg : decode cc pc = .ok (.arraylength, 1)) (kk : G d x ws cells slots (pc + 1) lv (.int v :: st)) : G d x ws cells slots pc lv (.ref a :: st) := by
  obtain ⟨p, l, e, R, s, m, args, below, meth, c, A, nL, Q⟩ := x
  obtain ⟨hx, hb, hml, hnL, hown, hts, hK, hZ, hA, hR, hlk⟩ := E
  intro H locs ls hP hD hS hl
  exact va_alen hx hb hK.1 hP q0 t0 ha ht hv hdg (kk H locs ls hP hD hS hl)
theorem g_clsuniq {U : State} {d : gD} {t0 : Nat} {cA : ClassId} {ty : FieldType} (hK : va_K d.1 vwCl (gTys d) U) (ht : (gTys d)[t0]? = some (cA, ty)) {tys : List (ClassId × FieldType)} {cB : ClassId} (h : va_K d.1 vwCl (tys ++ [(cB, ty)]) U) : cB = cA := by
  have h1 := (hK.2 t0 _ ht).2
  have h2 := (h.2 tys.length (cB, ty) (by simp)).2
  cases ty with
  | object C =>
    obtain ⟨_, _, -, -, -, e1⟩ := h1
    obtain ⟨_, _, -, -, -, e2⟩ := h2
    exact Option.some.inj (e2.symm.trans e1)
  | _ => exact Option.some.inj ((show U.vm.findClass _ = some cB from h2).symm.trans (show U.vm.findClass _ = some cA from h1))
theorem g_new (E : gE d x own cc n rm) {C : String} {T : u_T} {N ci index : Nat} (hin : ∀ w ∈ u_ws C T N, w ∈ wsL_law) (ty : Nat → FieldType) (hty : ∀ k, k < N → parseFieldDescriptor (T k).2.2.1 = some (ty k)) (hcl : Cond.classLink own index C ∈ wsL_law) (hinst : Cond.instantiable C N ∈ wsL_law) (hini : Cond.initialized C ∈ wsL_law) (hc : vwCl[ci]? = some (C, T, N)) (fs : List Value) (hfs : ∀ j, j < N → defaultValue (ty j) = vp_V fs j) (h1 : cells + 1 ≤ rm.cells) (h2 : slots + N ≤ rm.slots) (hdg : decode cc pc = .ok (.new index, 3)) (kk : ∀ q : Nat, (∀ z ∈ ws, z.1 ≠ q) → G d x (ws ++ [(q, .inr (ci, fs))]) (cells + 1) (slots + N) (pc + 3) lv (.ref q :: st)) : G d x ws cells slots pc lv (st) := by
  obtain ⟨p, l, e, R, s, m, args, below, meth, c, A, nL, Q⟩ := x
  obtain ⟨hx, hb, hml, hnL, hown, hts, hK, hZ, hA, hR, hlk⟩ := E
  intro H locs ls hP hD hS hl
  subst hR
  exact va_new hx hb hts hin ty hty hown (hts _ hcl) (hts _ hinst) (hts _ hini) hK.1 hP hD hS hA hc hfs h1 h2 hdg (fun q H1 hP1 hD1 hS1 => kk q (fun z hz e => by
    obtain ⟨k, hk⟩ := List.getElem?_of_mem hz
    have hkl := (List.getElem?_eq_some_iff.mp hk).1
    have := hD1.1 k ws.length z (q, .inr (ci, fs)) (by rw [List.getElem?_append_left hkl]; exact hk) (by simp) e
    omega) H1 locs ls hP1 hD1 hS1 hl)
theorem g_newi (E : gE d x own cc n rm) {cA : ClassId} (harr : Cond.arrayClass (newarray.typeOf .int) ∈ wsL_law) (ht : (gTys d)[0]? = some (cA, .int)) {v : Int32} {N : Nat} (hv : v = nI N) (hN : N < 65536) (h1 : cells + 1 ≤ rm.cells) (h2 : slots + N ≤ rm.slots) (hdg : decode cc pc = .ok (.newarray .int, 2)) (kk : ∀ q : Nat, (∀ z ∈ ws, z.1 ≠ q) → G d x (ws ++ [(q, .inl (cA, N, .inl (fun _ => 0)))]) (cells + 1) (slots + N) (pc + 2) lv (.ref q :: st)) : G d x ws cells slots pc lv (.int v :: st) := by
  obtain ⟨p, l, e, R, s, m, args, below, meth, c, A, nL, Q⟩ := x
  obtain ⟨hx, hb, hml, hnL, hown, hts, hK, hZ, hA, hR, hlk⟩ := E
  intro H locs ls hP hD hS hl
  subst hR
  subst hv
  refine va_newa (atype := .int) (ty := .int) (N' := N) (a0 := (N, .inl (fun _ => 0))) hx hb (hts _ harr) rfl hK.1 hP hD hS hA (fun cA => by rw [vp_cell_i]; rfl) (nI_pos (by omega)) (nI_clamp (by omega)) (by simp only [componentBytes]; omega) h1 h2 hdg (fun q cB H1 hK1 hP1 hD1 hS1 => ?_)
  have e := g_clsuniq hK.1 ht hK1
  subst e
  exact kk q (fun z hz e => by
    obtain ⟨k, hk⟩ := List.getElem?_of_mem hz
    have hkl := (List.getElem?_eq_some_iff.mp hk).1
    have := hD1.1 k ws.length z (q, _) (by rw [List.getElem?_append_left hkl]; exact hk) (by simp; rfl) e
    omega) H1 locs ls hP1 hD1 hS1 hl
theorem g_newc (E : gE d x own cc n rm) {cA : ClassId} (harr : Cond.arrayClass (newarray.typeOf .char) ∈ wsL_law) (ht : (gTys d)[1]? = some (cA, .char)) {v : Int32} {N : Nat} (hv : v = nI N) (hN : N < 65536) (h1 : cells + 1 ≤ rm.cells) (h2 : slots + N ≤ rm.slots) (hdg : decode cc pc = .ok (.newarray .char, 2)) (kk : ∀ q : Nat, (∀ z ∈ ws, z.1 ≠ q) → G d x (ws ++ [(q, .inl (cA, N, .inl (fun _ => 0)))]) (cells + 1) (slots + N) (pc + 2) lv (.ref q :: st)) : G d x ws cells slots pc lv (.int v :: st) := by
  obtain ⟨p, l, e, R, s, m, args, below, meth, c, A, nL, Q⟩ := x
  obtain ⟨hx, hb, hml, hnL, hown, hts, hK, hZ, hA, hR, hlk⟩ := E
  intro H locs ls hP hD hS hl
  subst hR
  subst hv
  refine va_newa (atype := .char) (ty := .char) (N' := N) (a0 := (N, .inl (fun _ => 0))) hx hb (hts _ harr) rfl hK.1 hP hD hS hA (fun cA => by rw [vp_cell_i]; rfl) (nI_pos (by omega)) (nI_clamp (by omega)) (by simp only [componentBytes]; omega) h1 h2 hdg (fun q cB H1 hK1 hP1 hD1 hS1 => ?_)
  have e := g_clsuniq hK.1 ht hK1
  subst e
  exact kk q (fun z hz e => by
    obtain ⟨k, hk⟩ := List.getElem?_of_mem hz
    have hkl := (List.getElem?_eq_some_iff.mp hk).1
    have := hD1.1 k ws.length z (q, _) (by rw [List.getElem?_append_left hkl]; exact hk) (by simp; rfl) e
    omega) H1 locs ls hP1 hD1 hS1 hl
theorem g_newz (E : gE d x own cc n rm) {cA : ClassId} (harr : Cond.arrayClass (newarray.typeOf .boolean) ∈ wsL_law) (ht : (gTys d)[2]? = some (cA, .boolean)) {v : Int32} {N : Nat} (hv : v = nI N) (hN : N < 65536) (h1 : cells + 1 ≤ rm.cells) (h2 : slots + N ≤ rm.slots) (hdg : decode cc pc = .ok (.newarray .boolean, 2)) (kk : ∀ q : Nat, (∀ z ∈ ws, z.1 ≠ q) → G d x (ws ++ [(q, .inl (cA, N, .inl (fun _ => 0)))]) (cells + 1) (slots + N) (pc + 2) lv (.ref q :: st)) : G d x ws cells slots pc lv (.int v :: st) := by
  obtain ⟨p, l, e, R, s, m, args, below, meth, c, A, nL, Q⟩ := x
  obtain ⟨hx, hb, hml, hnL, hown, hts, hK, hZ, hA, hR, hlk⟩ := E
  intro H locs ls hP hD hS hl
  subst hR
  subst hv
  refine va_newa (atype := .boolean) (ty := .boolean) (N' := N) (a0 := (N, .inl (fun _ => 0))) hx hb (hts _ harr) rfl hK.1 hP hD hS hA (fun cA => by rw [vp_cell_i]; rfl) (nI_pos (by omega)) (nI_clamp (by omega)) (by simp only [componentBytes]; omega) h1 h2 hdg (fun q cB H1 hK1 hP1 hD1 hS1 => ?_)
  have e := g_clsuniq hK.1 ht hK1
  subst e
  exact kk q (fun z hz e => by
    obtain ⟨k, hk⟩ := List.getElem?_of_mem hz
    have hkl := (List.getElem?_eq_some_iff.mp hk).1
    have := hD1.1 k ws.length z (q, _) (by rw [List.getElem?_append_left hkl]; exact hk) (by simp; rfl) e
    omega) H1 locs ls hP1 hD1 hS1 hl
theorem g_newq (E : gE d x own cc n rm) {cA : ClassId} {index : Nat} (hcl : Cond.classLink own index RX3 ∈ wsL_law) (ht : (gTys d)[3]? = some (cA, .object RX3)) {v : Int32} {N : Nat} (hv : v = nI N) (hN : N < 65536) (h1 : cells + 1 ≤ rm.cells) (h2 : slots + N ≤ rm.slots) (hdg : decode cc pc = .ok (.anewarray index, 3)) (kk : ∀ q : Nat, (∀ z ∈ ws, z.1 ≠ q) → G d x (ws ++ [(q, .inl (cA, N, .inr (.inr (.inr (.inr (fun _ => none))))))]) (cells + 1) (slots + N) (pc + 3) lv (.ref q :: st)) : G d x ws cells slots pc lv (.int v :: st) := by
  obtain ⟨p, l, e, R, s, m, args, below, meth, c, A, nL, Q⟩ := x
  obtain ⟨hx, hb, hml, hnL, hown, hts, hK, hZ, hA, hR, hlk⟩ := E
  intro H locs ls hP hD hS hl
  subst hR
  subst hv
  refine va_newq (C := RX3) hx hb hown (hts _ hcl) hK.2.1 hK.1 hP hD hS hA (nI_pos (by omega)) (nI_clamp (by omega)) (by omega) h1 h2 hdg (fun q cB H1 hK1 hP1 hD1 hS1 => ?_)
  have e := g_clsuniq hK.1 ht hK1
  subst e
  exact kk q (fun z hz e => by
    obtain ⟨k, hk⟩ := List.getElem?_of_mem hz
    have hkl := (List.getElem?_eq_some_iff.mp hk).1
    have := hD1.1 k ws.length z (q, _) (by rw [List.getElem?_append_left hkl]; exact hk) (by simp; rfl) e
    omega) H1 locs ls hP1 hD1 hS1 hl
theorem g_max (E : gE d x own cc n rm) {a b : Int32} {index : Nat} (hlink : Cond.methodLink own index Lib.Math.max.name ∈ wsL_law) (h1 : 1 ≤ rm.frames) (h2 : (st.map fun v => v.category).sum + 13 ≤ rm.locals) (h3 : cells ≤ rm.cells) (h4 : slots ≤ rm.slots) (hdg : decode cc pc = .ok (.invokestatic index, 3)) (kk : G d x ws cells slots (pc + 3) lv (.int (if a < b then b else a) :: st)) : G d x ws cells slots pc lv (.int b :: .int a :: st) := by
  obtain ⟨p, l, e, R, s, m, args, below, meth, c, A, nL, Q⟩ := x
  obtain ⟨hx, hb, hml, hnL, hown, hts, hK, hZ, hA, hR, hlk⟩ := E
  intro H locs ls hP hD hS hl
  subst hR
  exact va_mmax hx hb (by rw [hml, hl.1, hnL]) hown (hts _ hlink) (hts _ um_max_st) (hts _ um_math) (hts _ um_max_code) h1 h2 h3 h4 hdg (kk H locs ls hP hD hS hl)
theorem g_min (E : gE d x own cc n rm) {a b : Int32} {index : Nat} (hlink : Cond.methodLink own index Lib.Math.min.name ∈ wsL_law) (h1 : 1 ≤ rm.frames) (h2 : (st.map fun v => v.category).sum + 13 ≤ rm.locals) (h3 : cells ≤ rm.cells) (h4 : slots ≤ rm.slots) (hdg : decode cc pc = .ok (.invokestatic index, 3)) (kk : G d x ws cells slots (pc + 3) lv (.int (if b < a then b else a) :: st)) : G d x ws cells slots pc lv (.int b :: .int a :: st) := by
  obtain ⟨p, l, e, R, s, m, args, below, meth, c, A, nL, Q⟩ := x
  obtain ⟨hx, hb, hml, hnL, hown, hts, hK, hZ, hA, hR, hlk⟩ := E
  intro H locs ls hP hD hS hl
  subst hR
  exact va_mmin hx hb (by rw [hml, hl.1, hnL]) hown (hts _ hlink) (hts _ um_min_st) (hts _ um_math) (hts _ um_min_code) h1 h2 h3 h4 hdg (kk H locs ls hP hD hS hl)
theorem g_abs (E : gE d x own cc n rm) {a : Int32} {index : Nat} (hlink : Cond.methodLink own index Lib.Math.abs.name ∈ wsL_law) (h1 : 1 ≤ rm.frames) (h2 : (st.map fun v => v.category).sum + 13 ≤ rm.locals) (h3 : cells ≤ rm.cells) (h4 : slots ≤ rm.slots) (hdg : decode cc pc = .ok (.invokestatic index, 3)) (kk : G d x ws cells slots (pc + 3) lv (.int (if 0 ≤ a then a else 0 - a) :: st)) : G d x ws cells slots pc lv (.int a :: st) := by
  obtain ⟨p, l, e, R, s, m, args, below, meth, c, A, nL, Q⟩ := x
  obtain ⟨hx, hb, hml, hnL, hown, hts, hK, hZ, hA, hR, hlk⟩ := E
  intro H locs ls hP hD hS hl
  subst hR
  exact va_mabs hx hb (by rw [hml, hl.1, hnL]) hown (hts _ hlink) (hts _ um_abs_st) (hts _ um_math) (hts _ um_abs_code) h1 h2 h3 h4 hdg (kk H locs ls hP hD hS hl)
theorem g_objInit (E : gE d x own cc n rm) {a index : Nat} (hlink : Cond.methodLink own index objectInit ∈ wsL_law) (h1 : 1 ≤ rm.frames) (h2 : (st.map fun v => v.category).sum + 12 ≤ rm.locals) (hdg : decode cc pc = .ok (.invokespecial index, 3)) (kk : G d x ws cells slots (pc + 3) lv (st)) : G d x ws cells slots pc lv (.ref a :: st) := by
  obtain ⟨p, l, e, R, s, m, args, below, meth, c, A, nL, Q⟩ := x
  obtain ⟨hx, hb, hml, hnL, hown, hts, hK, hZ, hA, hR, hlk⟩ := E
  intro H locs ls hP hD hS hl
  subst hR
  exact W.objInit hx hb hown (hts _ hlink) (hts _ um_obj_in) (hts _ um_obj_code) (g := F0 m pc ls (.ref a :: st)) rfl (by rw [hml, hl.1, hnL]) rfl hdg h1 (by show 2 * 0 + _ + 12 ≤ _; omega) (kk H locs ls hP hD hS hl)
end GL
end
section
/-! calls and methods over the judgement G -/
def gPre (d : gD) (W : va_W) (sz : Nat) (U : State) : Prop := U.heap.size = sz ∧ va_P d.1 vwCl W U.heap ∧ gK d U ∧ va_D (fun _ => True) W ∧ gS d.2.1 (va_A W sz) U U.heap
theorem gPre_blind {d : gD} {av : List Value} {W : va_W} {sz : Nat} : FrameBlind (va_Pc av (gPre d W sz)) := fun a U g mk q => by
  obtain ⟨h0, h1, h2, h3, h4, h5⟩ := q
  exact ⟨h0, h1, h2, h3.calling, h4, h5.go (U := U.calling g mk a) (Vm.Alike.refl U.vm) (fun _ h => h) (fun _ _ _ => rfl)⟩
def gQi (d : gD) (W : va_W) (post : Int32 → va_W → Prop) (sz : Nat) : Array Value → State → Outcome → State → Prop := va_Qi (S := va_W) post (fun u t => va_P d.1 vwCl u t.heap ∧ va_D (va_A W sz) u) (va_A W sz)
def gQv (d : gD) (W : va_W) (post : va_W → Prop) (sz : Nat) : Array Value → State → Outcome → State → Prop := va_Qv (S := va_W) post (fun u t => va_P d.1 vwCl u t.heap ∧ va_D (va_A W sz) u) (va_A W sz)
/-- a method's contract: in the world W, with the arguments av, it answers r in the world u, and 'post r u' -/
def gMi (d : gD) (y : MethodName) (cb : ByteArray) (maxL : Nat) (ret : Option FieldType) (rm : Room) (av : List Value) (W : va_W) (post : Int32 → va_W → Prop) : Prop := ∀ (l : Launch) (sz : Nat), Met l y (uw y cb maxL ret) rm (va_Pc av (gPre d W sz)) (gQi d W post sz) rm.cells rm.slots (va_A W sz)
def gMv (d : gD) (y : MethodName) (cb : ByteArray) (maxL : Nat) (rm : Room) (av : List Value) (W : va_W) (post : va_W → Prop) : Prop := ∀ (l : Launch) (sz : Nat), Met l y (uw y cb maxL none) rm (va_Pc av (gPre d W sz)) (gQv d W post sz) rm.cells rm.slots (va_A W sz)
theorem gMi.mono {d : gD} {y : MethodName} {cb : ByteArray} {maxL : Nat} {ret : Option FieldType} {rm : Room} {av : List Value} {W : va_W} {post post' : Int32 → va_W → Prop} (h : gMi d y cb maxL ret rm av W post) (e : post = post') : gMi d y cb maxL ret rm av W post' := e ▸ h
theorem g_app {W wr : va_W} {k : Nat} {q : Nat × va_E} (hk : W[k]? = some q) : (W ++ wr)[k]? = some q := by
  rw [List.getElem?_append_left (List.getElem?_eq_some_iff.mp hk).1]
  exact hk
theorem g_app2 {W wr : va_W} {k : Nat} {q : Nat × va_E} (hk : wr[k]? = some q) : (W ++ wr)[W.length + k]? = some q := by
  rw [List.getElem?_append_right (by omega), Nat.add_sub_cancel_left]
  exact hk
theorem g_free {d : gD} {A : Nat → Prop} {W wr : va_W} {H0 H : Heap} {locs : List Loc} (hD : va_D A (W ++ wr)) (hS : va_S A H0 H locs) (hA : ∀ q, H0.size ≤ q → A q) : ∀ q, va_A W H.size q → A q := by
  intro q h
  rcases h with ⟨k, e, h⟩ | h
  · exact hD.2 k (q, e) (g_app h)
  · exact hA q (Nat.le_trans hS.1 h)
theorem g_pre {d : gD} {A : Nat → Prop} {W wr : va_W} {s : State} {H : Heap} {locs : List Loc} (hK : gK d s) (hZ : gS d.2.1 A s s.heap) (hP : va_P d.1 vwCl (W ++ wr) H) (hD : va_D A (W ++ wr)) (hS : va_S A s.heap H locs) (hA : ∀ q, s.heap.size ≤ q → A q) (U : State) (hU : U.heap = H) (hW : s.WarmedH U.vm) : gPre d W H.size U := by
  have hPc : va_P d.1 vwCl W H := fun k q hk => hP k q (g_app hk)
  have hDc : va_D A W := ⟨fun i j p q hi hj hpq => hD.1 i j p q (g_app hi) (g_app hj) hpq, fun k q hk => hD.2 k q (g_app hk)⟩
  have hFc := g_free (d := d) hD hS hA
  refine ⟨by rw [hU], by rw [hU]; exact hPc, hK.warm hW, hDc.weaken (fun _ _ _ _ => trivial), ?_⟩
  rw [hU]
  exact hZ.go hW.alike hFc (fun a h1 h2 => hS.2.1 a h1 h2)
theorem g_back {d : gD} {A : Nat → Prop} {W wr u : va_W} {H H1 : Heap} (hP : va_P d.1 vwCl (W ++ wr) H) (hD : va_D A (W ++ wr)) (hk : ∀ q : Nat, q < H.size → ¬ va_A W H.size q → H1[q]? = H[q]?) (hF : ∀ q, va_A W H.size q → A q) (hP1 : va_P d.1 vwCl u H1) (hD1 : va_D (va_A W H.size) u) : va_P d.1 vwCl (u ++ wr) H1 ∧ va_D A (u ++ wr) := by
  have apart : ∀ (k : Nat) (q : Nat × va_E), wr[k]? = some q → q.1 < H.size ∧ ¬ va_A W H.size q.1 := by
    intro k q hq
    have hl := (hP _ q (g_app2 hq)).lt
    refine ⟨hl, fun h => ?_⟩
    rcases h with ⟨k2, e, h⟩ | h
    · have := hD.1 _ _ (q.1, e) q (g_app (wr := wr) h) (g_app2 (W := W) hq) rfl
      have := (List.getElem?_eq_some_iff.mp h).1
      omega
    · omega
  refine ⟨va_P.app hP1 (fun k q hq => ?_), va_D.app (hD1.weaken (fun k q _ h => hF q.1 h)) ⟨fun i j p q hi hj hpq => ?_, fun k q hq => hD.2 _ q (g_app2 hq)⟩ (fun i j x y hx hy hxy => ?_)⟩
  · obtain ⟨g1, g2⟩ := apart k q hq
    exact (hP _ q (g_app2 hq)).kept (hk q.1 g1 g2)
  · have := hD.1 _ _ p q (g_app2 (W := W) hi) (g_app2 (W := W) hj) hpq
    omega
  · exact (apart j y hy).2 (by rw [← hxy]; exact hD1.2 i x hx)
section GA
variable {d : gD} {p : Program} {l : Launch} {e : Env} {R : Room} {s : State} {m : MethodId} {args : Array Value} {below : List Frame} {meth : Method} {c : Code} {A : Nat → Prop} {nL : Nat} {Q : State → Prop} {H : Heap} {locs : List Loc} {cells slots mc ms pc : Nat} {ls : Array Slot} {st0 rest : List Value} {a : Array Value} {W0 wr : va_W} {lv : List (Nat × Value)}
theorem g_aft_i {post : Int32 → va_W → Prop} (hr : va_Run p l e R s m args below meth c H locs cells slots mc ms (F0 m pc ls st0) rest (gQi d W0 post H.size a) (va_A W0 H.size)) (hP : va_P d.1 vwCl (W0 ++ wr) H) (hD : va_D A (W0 ++ wr)) (hS : va_S A s.heap H locs) (hA : ∀ q, s.heap.size ≤ q → A q) (hl : lv_has ls nL lv)
    (kk : ∀ (r : Int32) (u : va_W), post r u → G d (p, l, e, R, s, m, args, below, meth, c, A, nL, Q) (u ++ wr) (cells + mc) (slots + ms) (pc + 3) lv (.int r :: rest)) : W p l e R s m args below meth c H locs cells slots Q (F0 m pc ls st0) := by
  have hFc := g_free (d := d) hD hS hA
  refine va_calli hr hS (fun q _ h => hFc q h) hFc (fun r u t H1 locs1 ht hvm hw hB hz1 hk1 hS1 => ?_)
  obtain ⟨hP1, hD1⟩ := hB
  rw [ht] at hP1
  obtain ⟨hP2, hD2⟩ := g_back hP hD hk1 hFc hP1 hD1
  exact kk r u hw H1 locs1 ls hP2 hD2 hS1 hl
theorem g_aft_v {post : va_W → Prop} (hr : va_Run p l e R s m args below meth c H locs cells slots mc ms (F0 m pc ls st0) rest (gQv d W0 post H.size a) (va_A W0 H.size)) (hP : va_P d.1 vwCl (W0 ++ wr) H) (hD : va_D A (W0 ++ wr)) (hS : va_S A s.heap H locs) (hA : ∀ q, s.heap.size ≤ q → A q) (hl : lv_has ls nL lv)
    (kk : ∀ (u : va_W), post u → G d (p, l, e, R, s, m, args, below, meth, c, A, nL, Q) (u ++ wr) (cells + mc) (slots + ms) (pc + 3) lv rest) : W p l e R s m args below meth c H locs cells slots Q (F0 m pc ls st0) := by
  have hFc := g_free (d := d) hD hS hA
  refine va_callv hr hS (fun q _ h => hFc q h) hFc (fun u t H1 locs1 ht hvm hw hB hz1 hk1 hS1 => ?_)
  obtain ⟨hP1, hD1⟩ := hB
  rw [ht] at hP1
  obtain ⟨hP2, hD2⟩ := g_back hP hD hk1 hFc hP1 hD1
  exact kk u hw H1 locs1 ls hP2 hD2 hS1 hl
end GA
/-- a call's words: of an instance method, a static one, a constructor; of a nest mate's private ones -/
def gCB (y : MethodName) (cb : ByteArray) (maxL : Nat) (ret : Option FieldType) (k : Nat) : Prop := Cond.code y cb maxL ret ∈ wsL_law ∧ Cond.initialized y.cls ∈ wsL_law ∧ (y.cls ≠ "java/lang/invoke/MethodHandle" ∧ y.cls ≠ "java/lang/invoke/VarHandle") ∧ (parseMethodDescriptor y.desc).map (fun d => d.parameters.length) = some k
def gCV (C : String) (y : MethodName) (cb : ByteArray) (maxL : Nat) (ret : Option FieldType) (k : Nat) : Prop := gCB y cb maxL ret k ∧ Cond.instanceMethod y ∈ wsL_law ∧ Cond.selects C y y ∈ wsL_law
def gCS (y : MethodName) (cb : ByteArray) (maxL : Nat) (ret : Option FieldType) (k : Nat) : Prop := gCB y cb maxL ret k ∧ Cond.static y ∈ wsL_law
def gCI (y : MethodName) (cb : ByteArray) (maxL : Nat) (k : Nat) : Prop := gCB y cb maxL none k ∧ y.name = "<init>" ∧ Cond.instanceMethod y ∈ wsL_law
abbrev gRm (rm rmc : Room) (maxL cells slots : Nat) : Prop := rmc.frames + 1 ≤ rm.frames ∧ 8 + (maxL + 11) + rmc.locals ≤ rm.locals ∧ cells + rmc.cells ≤ rm.cells ∧ slots + rmc.slots ≤ rm.slots
theorem gCB.len {y : MethodName} {cb : ByteArray} {maxL : Nat} {ret : Option FieldType} {k : Nat} (h : gCB y cb maxL ret k) : ∀ sig, parseMethodDescriptor y.desc = some sig → k = sig.parameters.length := fun sig hs => by
  have h2 := h.2.2.2
  rw [hs] at h2
  exact (Option.some.inj h2).symm
theorem gCB.b {s : State} {args : Array Value} {own : String} {index : Nat} {y : MethodName} {cb : ByteArray} {maxL : Nat} {ret : Option FieldType} {k : Nat} {rm rmc : Room} {cells slots : Nat} (hts : ∀ w ∈ wsL_law, w.before args s = true) (h : gCB y cb maxL ret k) (hl : Cond.methodLink own index y ∈ wsL_law) (hf : gRm rm rmc maxL cells slots) : CallB rm s args own index y cb maxL ret (uw y cb maxL ret) rmc rmc.cells rmc.slots k :=
  ⟨rfl, rfl, hf.1, hf.2.1, pay_in hts (uw_good h.1), List.mem_cons_self, hts _ h.1, hts _ h.2.1, h.2.2.1, h.len, hts _ hl⟩
theorem gCB.bn {s : State} {args : Array Value} {own : String} {index : Nat} {y : MethodName} {host : String} {cb : ByteArray} {maxL : Nat} {ret : Option FieldType} {k : Nat} {rm rmc : Room} {cells slots : Nat} (hts : ∀ w ∈ wsL_law, w.before args s = true) (h : gCB y cb maxL ret k) (hl : va_Nw (.methodLinkNest own index y host) s) (hf : gRm rm rmc maxL cells slots) : va_CN rm s args own index y host cb maxL ret (uw y cb maxL ret) rmc rmc.cells rmc.slots k :=
  ⟨⟨rfl, rfl, hf.1, hf.2.1, pay_in hts (uw_good h.1), List.mem_cons_self⟩, hts _ h.1, hts _ h.2.1, h.2.2.1, h.len, va_Nw.use rfl hl⟩
section GC
variable {d : gD} {x : gX} {own : String} {cc : ByteArray} {n : Nat} {rm : Room} {ws : va_W} {cells slots pc : Nat} {lv : List (Nat × Value)} {st : List Value}
variable {C : String} {y : MethodName} {cb : ByteArray} {maxL : Nat} {ret : Option FieldType} {k index : Nat} {rmc : Room} {av As rest : List Value} {W0 wr : va_W} {b : Nat}
theorem pk_cpy_in0 {f g : Nat → Int32} {N j : Nat} (h : j < N) : va_cpy f g 0 0 N j = f j := by
  simp [va_cpy, h]
theorem g_callVi (E : gE d x own cc n rm) (hc : gCV C y cb maxL ret k) (hl0 : Cond.methodLink own index y ∈ wsL_law) {post : Int32 → va_W → Prop} (hM : gMi d y cb maxL ret rmc av W0 post) (hav : av = .ref b :: As) (hws : ws = W0 ++ wr) {ci N : Nat} {T : u_T} {fs : List Value} (q0 : Nat) (he : W0[q0]? = some (b, .inr (ci, fs))) (hcl : vwCl[ci]? = some (C, T, N)) (hn : As.length = k) (hst : st = As.reverse ++ .ref b :: rest) (hcat : (rest.map fun v => v.category).sum ≤ 8) (hf : gRm rm rmc maxL cells slots) {c2 n2 : Nat} (hz : cells + rmc.cells = c2) (hz2 : slots + rmc.slots = n2) (hdg : decode cc pc = .ok (.invokevirtual index, 3)) (kk : ∀ (r : Int32) (u : va_W), post r u → G d x (u ++ wr) c2 n2 (pc + 3) lv (.int r :: rest)) : G d x ws cells slots pc lv st := by
  obtain ⟨p, l, e, R, s, m, args, below, meth, c, A, nL, Q⟩ := x
  obtain ⟨hx, hb, hml, hnL, hown, hts, hK, hZ, hA, hR, hlk⟩ := E
  intro H locs ls hP hD hS hl
  subst hws; subst hst; subst hR; subst hav; subst hz; subst hz2
  exact g_aft_i (va_runV (C := C) (As := As) (rest := rest) ⟨hx, hb, hml, hown, hts⟩ (hM l H.size) ⟨gCB.b hts hc.1 hl0 hf, hts _ hc.2.1, hts _ hc.2.2⟩ ⟨gPre_blind, va_recv hK.1 hP hcl (g_app he), fun U hU hW => ⟨rfl, g_pre hK hZ hP hD hS hA U hU hW⟩⟩ rfl hn (hl.1.trans hnL) rfl (lv_room hcat) hdg ⟨hf.2.2.1, hf.2.2.2⟩) hP hD hS hA hl kk
theorem g_callViD (E : gE d x own cc n rm) (hc : gCV C y cb maxL ret k) (hl0 : Cond.methodLink own index y ∈ wsL_law) {F : Int32} {W1 : va_W} (hM : gMi d y cb maxL ret rmc av W0 (fun r u => r = F ∧ u = W1)) (hav : av = .ref b :: As) (hws : ws = W0 ++ wr) {ci N : Nat} {T : u_T} {fs : List Value} (q0 : Nat) (he : W0[q0]? = some (b, .inr (ci, fs))) (hcl : vwCl[ci]? = some (C, T, N)) (hn : As.length = k) (hst : st = As.reverse ++ .ref b :: rest) (hcat : (rest.map fun v => v.category).sum ≤ 8) (hf : gRm rm rmc maxL cells slots) {c2 n2 : Nat} (hz : cells + rmc.cells = c2) (hz2 : slots + rmc.slots = n2) (hdg : decode cc pc = .ok (.invokevirtual index, 3)) (kk : G d x (W1 ++ wr) c2 n2 (pc + 3) lv (.int F :: rest)) : G d x ws cells slots pc lv st :=
  g_callVi E hc hl0 hM hav hws q0 he hcl hn hst hcat hf hz hz2 hdg (fun r u h => by obtain ⟨rfl, rfl⟩ := h; exact kk)
theorem g_callVi0 (E : gE d x own cc n rm) (hc : gCV C y cb maxL ret k) (hl0 : Cond.methodLink own index y ∈ wsL_law) {F : Int32} {W1 : va_W} (hM : gMi d y cb maxL ret rmc av W0 (fun r u => r = F ∧ u = W1)) (hav : av = .ref b :: As) (hws : ws = W0) {ci N : Nat} {T : u_T} {fs : List Value} (q0 : Nat) (he : W0[q0]? = some (b, .inr (ci, fs))) (hcl : vwCl[ci]? = some (C, T, N)) (hn : As.length = k) (hst : st = As.reverse ++ .ref b :: rest) (hcat : (rest.map fun v => v.category).sum ≤ 8) (hf : gRm rm rmc maxL cells slots) {c2 n2 : Nat} (hz : cells + rmc.cells = c2) (hz2 : slots + rmc.slots = n2) (hdg : decode cc pc = .ok (.invokevirtual index, 3)) (kk : G d x W1 c2 n2 (pc + 3) lv (.int F :: rest)) : G d x ws cells slots pc lv st :=
  g_callViD E hc hl0 hM hav (hws.trans (List.append_nil _).symm) q0 he hcl hn hst hcat hf hz hz2 hdg (by rw [List.append_nil]; exact kk)
theorem g_callVv (E : gE d x own cc n rm) (hc : gCV C y cb maxL none k) (hl0 : Cond.methodLink own index y ∈ wsL_law) {post : va_W → Prop} (hM : gMv d y cb maxL rmc av W0 post) (hav : av = .ref b :: As) (hws : ws = W0 ++ wr) {ci N : Nat} {T : u_T} {fs : List Value} (q0 : Nat) (he : W0[q0]? = some (b, .inr (ci, fs))) (hcl : vwCl[ci]? = some (C, T, N)) (hn : As.length = k) (hst : st = As.reverse ++ .ref b :: rest) (hcat : (rest.map fun v => v.category).sum ≤ 8) (hf : gRm rm rmc maxL cells slots) {c2 n2 : Nat} (hz : cells + rmc.cells = c2) (hz2 : slots + rmc.slots = n2) (hdg : decode cc pc = .ok (.invokevirtual index, 3)) (kk : ∀ (u : va_W), post u → G d x (u ++ wr) c2 n2 (pc + 3) lv rest) : G d x ws cells slots pc lv st := by
  obtain ⟨p, l, e, R, s, m, args, below, meth, c, A, nL, Q⟩ := x
  obtain ⟨hx, hb, hml, hnL, hown, hts, hK, hZ, hA, hR, hlk⟩ := E
  intro H locs ls hP hD hS hl
  subst hws; subst hst; subst hR; subst hav; subst hz; subst hz2
  exact g_aft_v (va_runV (C := C) (As := As) (rest := rest) ⟨hx, hb, hml, hown, hts⟩ (hM l H.size) ⟨gCB.b hts hc.1 hl0 hf, hts _ hc.2.1, hts _ hc.2.2⟩ ⟨gPre_blind, va_recv hK.1 hP hcl (g_app he), fun U hU hW => ⟨rfl, g_pre hK hZ hP hD hS hA U hU hW⟩⟩ rfl hn (hl.1.trans hnL) rfl (lv_room hcat) hdg ⟨hf.2.2.1, hf.2.2.2⟩) hP hD hS hA hl kk
theorem g_callVvD (E : gE d x own cc n rm) (hc : gCV C y cb maxL none k) (hl0 : Cond.methodLink own index y ∈ wsL_law) {W1 : va_W} (hM : gMv d y cb maxL rmc av W0 (fun u => u = W1)) (hav : av = .ref b :: As) (hws : ws = W0 ++ wr) {ci N : Nat} {T : u_T} {fs : List Value} (q0 : Nat) (he : W0[q0]? = some (b, .inr (ci, fs))) (hcl : vwCl[ci]? = some (C, T, N)) (hn : As.length = k) (hst : st = As.reverse ++ .ref b :: rest) (hcat : (rest.map fun v => v.category).sum ≤ 8) (hf : gRm rm rmc maxL cells slots) {c2 n2 : Nat} (hz : cells + rmc.cells = c2) (hz2 : slots + rmc.slots = n2) (hdg : decode cc pc = .ok (.invokevirtual index, 3)) (kk : G d x (W1 ++ wr) c2 n2 (pc + 3) lv (rest)) : G d x ws cells slots pc lv st :=
  g_callVv E hc hl0 hM hav hws q0 he hcl hn hst hcat hf hz hz2 hdg (fun u h => by subst h; exact kk)
theorem g_callVv0 (E : gE d x own cc n rm) (hc : gCV C y cb maxL none k) (hl0 : Cond.methodLink own index y ∈ wsL_law) {W1 : va_W} (hM : gMv d y cb maxL rmc av W0 (fun u => u = W1)) (hav : av = .ref b :: As) (hws : ws = W0) {ci N : Nat} {T : u_T} {fs : List Value} (q0 : Nat) (he : W0[q0]? = some (b, .inr (ci, fs))) (hcl : vwCl[ci]? = some (C, T, N)) (hn : As.length = k) (hst : st = As.reverse ++ .ref b :: rest) (hcat : (rest.map fun v => v.category).sum ≤ 8) (hf : gRm rm rmc maxL cells slots) {c2 n2 : Nat} (hz : cells + rmc.cells = c2) (hz2 : slots + rmc.slots = n2) (hdg : decode cc pc = .ok (.invokevirtual index, 3)) (kk : G d x W1 c2 n2 (pc + 3) lv (rest)) : G d x ws cells slots pc lv st :=
  g_callVvD E hc hl0 hM hav (hws.trans (List.append_nil _).symm) q0 he hcl hn hst hcat hf hz hz2 hdg (by rw [List.append_nil]; exact kk)
theorem g_callVNi (E : gE d x own cc n rm) {host : String} (hc : gCV C y cb maxL ret k) (hl0 : Cond.methodLinkNest own index y host ∈ gNest) {post : Int32 → va_W → Prop} (hM : gMi d y cb maxL ret rmc av W0 post) (hav : av = .ref b :: As) (hws : ws = W0 ++ wr) {ci N : Nat} {T : u_T} {fs : List Value} (q0 : Nat) (he : W0[q0]? = some (b, .inr (ci, fs))) (hcl : vwCl[ci]? = some (C, T, N)) (hn : As.length = k) (hst : st = As.reverse ++ .ref b :: rest) (hcat : (rest.map fun v => v.category).sum ≤ 8) (hf : gRm rm rmc maxL cells slots) {c2 n2 : Nat} (hz : cells + rmc.cells = c2) (hz2 : slots + rmc.slots = n2) (hdg : decode cc pc = .ok (.invokevirtual index, 3)) (kk : ∀ (r : Int32) (u : va_W), post r u → G d x (u ++ wr) c2 n2 (pc + 3) lv (.int r :: rest)) : G d x ws cells slots pc lv st := by
  obtain ⟨p, l, e, R, s, m, args, below, meth, c, A, nL, Q⟩ := x
  obtain ⟨hx, hb, hml, hnL, hown, hts, hK, hZ, hA, hR, hlk⟩ := E
  intro H locs ls hP hD hS hl
  subst hws; subst hst; subst hR; subst hav; subst hz; subst hz2
  exact g_aft_i (va_runVN (C := C) (As := As) (rest := rest) ⟨hx, hb, hml, hown, hts⟩ (hM l H.size) ⟨gCB.bn hts hc.1 (hK.2.2.2 _ hl0) hf, hts _ hc.2.1, hts _ hc.2.2⟩ ⟨gPre_blind, va_recv hK.1 hP hcl (g_app he), fun U hU hW => ⟨rfl, g_pre hK hZ hP hD hS hA U hU hW⟩⟩ rfl hn (hl.1.trans hnL) rfl (lv_room hcat) hdg ⟨hf.2.2.1, hf.2.2.2⟩) hP hD hS hA hl kk
theorem g_callVNiD (E : gE d x own cc n rm) {host : String} (hc : gCV C y cb maxL ret k) (hl0 : Cond.methodLinkNest own index y host ∈ gNest) {F : Int32} {W1 : va_W} (hM : gMi d y cb maxL ret rmc av W0 (fun r u => r = F ∧ u = W1)) (hav : av = .ref b :: As) (hws : ws = W0 ++ wr) {ci N : Nat} {T : u_T} {fs : List Value} (q0 : Nat) (he : W0[q0]? = some (b, .inr (ci, fs))) (hcl : vwCl[ci]? = some (C, T, N)) (hn : As.length = k) (hst : st = As.reverse ++ .ref b :: rest) (hcat : (rest.map fun v => v.category).sum ≤ 8) (hf : gRm rm rmc maxL cells slots) {c2 n2 : Nat} (hz : cells + rmc.cells = c2) (hz2 : slots + rmc.slots = n2) (hdg : decode cc pc = .ok (.invokevirtual index, 3)) (kk : G d x (W1 ++ wr) c2 n2 (pc + 3) lv (.int F :: rest)) : G d x ws cells slots pc lv st :=
  g_callVNi E hc hl0 hM hav hws q0 he hcl hn hst hcat hf hz hz2 hdg (fun r u h => by obtain ⟨rfl, rfl⟩ := h; exact kk)
theorem g_callVNi0 (E : gE d x own cc n rm) {host : String} (hc : gCV C y cb maxL ret k) (hl0 : Cond.methodLinkNest own index y host ∈ gNest) {F : Int32} {W1 : va_W} (hM : gMi d y cb maxL ret rmc av W0 (fun r u => r = F ∧ u = W1)) (hav : av = .ref b :: As) (hws : ws = W0) {ci N : Nat} {T : u_T} {fs : List Value} (q0 : Nat) (he : W0[q0]? = some (b, .inr (ci, fs))) (hcl : vwCl[ci]? = some (C, T, N)) (hn : As.length = k) (hst : st = As.reverse ++ .ref b :: rest) (hcat : (rest.map fun v => v.category).sum ≤ 8) (hf : gRm rm rmc maxL cells slots) {c2 n2 : Nat} (hz : cells + rmc.cells = c2) (hz2 : slots + rmc.slots = n2) (hdg : decode cc pc = .ok (.invokevirtual index, 3)) (kk : G d x W1 c2 n2 (pc + 3) lv (.int F :: rest)) : G d x ws cells slots pc lv st :=
  g_callVNiD E hc hl0 hM hav (hws.trans (List.append_nil _).symm) q0 he hcl hn hst hcat hf hz hz2 hdg (by rw [List.append_nil]; exact kk)
theorem g_callVNv (E : gE d x own cc n rm) {host : String} (hc : gCV C y cb maxL none k) (hl0 : Cond.methodLinkNest own index y host ∈ gNest) {post : va_W → Prop} (hM : gMv d y cb maxL rmc av W0 post) (hav : av = .ref b :: As) (hws : ws = W0 ++ wr) {ci N : Nat} {T : u_T} {fs : List Value} (q0 : Nat) (he : W0[q0]? = some (b, .inr (ci, fs))) (hcl : vwCl[ci]? = some (C, T, N)) (hn : As.length = k) (hst : st = As.reverse ++ .ref b :: rest) (hcat : (rest.map fun v => v.category).sum ≤ 8) (hf : gRm rm rmc maxL cells slots) {c2 n2 : Nat} (hz : cells + rmc.cells = c2) (hz2 : slots + rmc.slots = n2) (hdg : decode cc pc = .ok (.invokevirtual index, 3)) (kk : ∀ (u : va_W), post u → G d x (u ++ wr) c2 n2 (pc + 3) lv rest) : G d x ws cells slots pc lv st := by
  obtain ⟨p, l, e, R, s, m, args, below, meth, c, A, nL, Q⟩ := x
  obtain ⟨hx, hb, hml, hnL, hown, hts, hK, hZ, hA, hR, hlk⟩ := E
  intro H locs ls hP hD hS hl
  subst hws; subst hst; subst hR; subst hav; subst hz; subst hz2
  exact g_aft_v (va_runVN (C := C) (As := As) (rest := rest) ⟨hx, hb, hml, hown, hts⟩ (hM l H.size) ⟨gCB.bn hts hc.1 (hK.2.2.2 _ hl0) hf, hts _ hc.2.1, hts _ hc.2.2⟩ ⟨gPre_blind, va_recv hK.1 hP hcl (g_app he), fun U hU hW => ⟨rfl, g_pre hK hZ hP hD hS hA U hU hW⟩⟩ rfl hn (hl.1.trans hnL) rfl (lv_room hcat) hdg ⟨hf.2.2.1, hf.2.2.2⟩) hP hD hS hA hl kk
theorem g_callVNvD (E : gE d x own cc n rm) {host : String} (hc : gCV C y cb maxL none k) (hl0 : Cond.methodLinkNest own index y host ∈ gNest) {W1 : va_W} (hM : gMv d y cb maxL rmc av W0 (fun u => u = W1)) (hav : av = .ref b :: As) (hws : ws = W0 ++ wr) {ci N : Nat} {T : u_T} {fs : List Value} (q0 : Nat) (he : W0[q0]? = some (b, .inr (ci, fs))) (hcl : vwCl[ci]? = some (C, T, N)) (hn : As.length = k) (hst : st = As.reverse ++ .ref b :: rest) (hcat : (rest.map fun v => v.category).sum ≤ 8) (hf : gRm rm rmc maxL cells slots) {c2 n2 : Nat} (hz : cells + rmc.cells = c2) (hz2 : slots + rmc.slots = n2) (hdg : decode cc pc = .ok (.invokevirtual index, 3)) (kk : G d x (W1 ++ wr) c2 n2 (pc + 3) lv (rest)) : G d x ws cells slots pc lv st :=
  g_callVNv E hc hl0 hM hav hws q0 he hcl hn hst hcat hf hz hz2 hdg (fun u h => by subst h; exact kk)
theorem g_callVNv0 (E : gE d x own cc n rm) {host : String} (hc : gCV C y cb maxL none k) (hl0 : Cond.methodLinkNest own index y host ∈ gNest) {W1 : va_W} (hM : gMv d y cb maxL rmc av W0 (fun u => u = W1)) (hav : av = .ref b :: As) (hws : ws = W0) {ci N : Nat} {T : u_T} {fs : List Value} (q0 : Nat) (he : W0[q0]? = some (b, .inr (ci, fs))) (hcl : vwCl[ci]? = some (C, T, N)) (hn : As.length = k) (hst : st = As.reverse ++ .ref b :: rest) (hcat : (rest.map fun v => v.category).sum ≤ 8) (hf : gRm rm rmc maxL cells slots) {c2 n2 : Nat} (hz : cells + rmc.cells = c2) (hz2 : slots + rmc.slots = n2) (hdg : decode cc pc = .ok (.invokevirtual index, 3)) (kk : G d x W1 c2 n2 (pc + 3) lv (rest)) : G d x ws cells slots pc lv st :=
  g_callVNvD E hc hl0 hM hav (hws.trans (List.append_nil _).symm) q0 he hcl hn hst hcat hf hz hz2 hdg (by rw [List.append_nil]; exact kk)
theorem g_callSi (E : gE d x own cc n rm) (hc : gCS y cb maxL ret k) (hl0 : Cond.methodLink own index y ∈ wsL_law) {post : Int32 → va_W → Prop} (hM : gMi d y cb maxL ret rmc av W0 post) (hav : av = As) (hws : ws = W0 ++ wr) (hn : As.length = k) (hst : st = As.reverse ++ rest) (hcat : (rest.map fun v => v.category).sum ≤ 8) (hf : gRm rm rmc maxL cells slots) {c2 n2 : Nat} (hz : cells + rmc.cells = c2) (hz2 : slots + rmc.slots = n2) (hdg : decode cc pc = .ok (.invokestatic index, 3)) (kk : ∀ (r : Int32) (u : va_W), post r u → G d x (u ++ wr) c2 n2 (pc + 3) lv (.int r :: rest)) : G d x ws cells slots pc lv st := by
  obtain ⟨p, l, e, R, s, m, args, below, meth, c, A, nL, Q⟩ := x
  obtain ⟨hx, hb, hml, hnL, hown, hts, hK, hZ, hA, hR, hlk⟩ := E
  intro H locs ls hP hD hS hl
  subst hws; subst hst; subst hR; subst hav; subst hz; subst hz2
  exact g_aft_i (va_runS (As := av) (rest := rest) ⟨hx, hb, hml, hown, hts⟩ (hM l H.size) ⟨gCB.b hts hc.1 hl0 hf, hts _ hc.2⟩ ⟨gPre_blind, fun U hU hW => ⟨rfl, g_pre hK hZ hP hD hS hA U hU hW⟩⟩ rfl hn (hl.1.trans hnL) rfl (lv_room hcat) hdg ⟨hf.2.2.1, hf.2.2.2⟩) hP hD hS hA hl kk
theorem g_callSiD (E : gE d x own cc n rm) (hc : gCS y cb maxL ret k) (hl0 : Cond.methodLink own index y ∈ wsL_law) {F : Int32} {W1 : va_W} (hM : gMi d y cb maxL ret rmc av W0 (fun r u => r = F ∧ u = W1)) (hav : av = As) (hws : ws = W0 ++ wr) (hn : As.length = k) (hst : st = As.reverse ++ rest) (hcat : (rest.map fun v => v.category).sum ≤ 8) (hf : gRm rm rmc maxL cells slots) {c2 n2 : Nat} (hz : cells + rmc.cells = c2) (hz2 : slots + rmc.slots = n2) (hdg : decode cc pc = .ok (.invokestatic index, 3)) (kk : G d x (W1 ++ wr) c2 n2 (pc + 3) lv (.int F :: rest)) : G d x ws cells slots pc lv st :=
  g_callSi E hc hl0 hM hav hws hn hst hcat hf hz hz2 hdg (fun r u h => by obtain ⟨rfl, rfl⟩ := h; exact kk)
theorem g_callSi0 (E : gE d x own cc n rm) (hc : gCS y cb maxL ret k) (hl0 : Cond.methodLink own index y ∈ wsL_law) {F : Int32} {W1 : va_W} (hM : gMi d y cb maxL ret rmc av W0 (fun r u => r = F ∧ u = W1)) (hav : av = As) (hws : ws = W0) (hn : As.length = k) (hst : st = As.reverse ++ rest) (hcat : (rest.map fun v => v.category).sum ≤ 8) (hf : gRm rm rmc maxL cells slots) {c2 n2 : Nat} (hz : cells + rmc.cells = c2) (hz2 : slots + rmc.slots = n2) (hdg : decode cc pc = .ok (.invokestatic index, 3)) (kk : G d x W1 c2 n2 (pc + 3) lv (.int F :: rest)) : G d x ws cells slots pc lv st :=
  g_callSiD E hc hl0 hM hav (hws.trans (List.append_nil _).symm) hn hst hcat hf hz hz2 hdg (by rw [List.append_nil]; exact kk)
theorem g_callSv (E : gE d x own cc n rm) (hc : gCS y cb maxL none k) (hl0 : Cond.methodLink own index y ∈ wsL_law) {post : va_W → Prop} (hM : gMv d y cb maxL rmc av W0 post) (hav : av = As) (hws : ws = W0 ++ wr) (hn : As.length = k) (hst : st = As.reverse ++ rest) (hcat : (rest.map fun v => v.category).sum ≤ 8) (hf : gRm rm rmc maxL cells slots) {c2 n2 : Nat} (hz : cells + rmc.cells = c2) (hz2 : slots + rmc.slots = n2) (hdg : decode cc pc = .ok (.invokestatic index, 3)) (kk : ∀ (u : va_W), post u → G d x (u ++ wr) c2 n2 (pc + 3) lv rest) : G d x ws cells slots pc lv st := by
  obtain ⟨p, l, e, R, s, m, args, below, meth, c, A, nL, Q⟩ := x
  obtain ⟨hx, hb, hml, hnL, hown, hts, hK, hZ, hA, hR, hlk⟩ := E
  intro H locs ls hP hD hS hl
  subst hws; subst hst; subst hR; subst hav; subst hz; subst hz2
  exact g_aft_v (va_runS (As := av) (rest := rest) ⟨hx, hb, hml, hown, hts⟩ (hM l H.size) ⟨gCB.b hts hc.1 hl0 hf, hts _ hc.2⟩ ⟨gPre_blind, fun U hU hW => ⟨rfl, g_pre hK hZ hP hD hS hA U hU hW⟩⟩ rfl hn (hl.1.trans hnL) rfl (lv_room hcat) hdg ⟨hf.2.2.1, hf.2.2.2⟩) hP hD hS hA hl kk
theorem g_callSvD (E : gE d x own cc n rm) (hc : gCS y cb maxL none k) (hl0 : Cond.methodLink own index y ∈ wsL_law) {W1 : va_W} (hM : gMv d y cb maxL rmc av W0 (fun u => u = W1)) (hav : av = As) (hws : ws = W0 ++ wr) (hn : As.length = k) (hst : st = As.reverse ++ rest) (hcat : (rest.map fun v => v.category).sum ≤ 8) (hf : gRm rm rmc maxL cells slots) {c2 n2 : Nat} (hz : cells + rmc.cells = c2) (hz2 : slots + rmc.slots = n2) (hdg : decode cc pc = .ok (.invokestatic index, 3)) (kk : G d x (W1 ++ wr) c2 n2 (pc + 3) lv (rest)) : G d x ws cells slots pc lv st :=
  g_callSv E hc hl0 hM hav hws hn hst hcat hf hz hz2 hdg (fun u h => by subst h; exact kk)
theorem g_callSv0 (E : gE d x own cc n rm) (hc : gCS y cb maxL none k) (hl0 : Cond.methodLink own index y ∈ wsL_law) {W1 : va_W} (hM : gMv d y cb maxL rmc av W0 (fun u => u = W1)) (hav : av = As) (hws : ws = W0) (hn : As.length = k) (hst : st = As.reverse ++ rest) (hcat : (rest.map fun v => v.category).sum ≤ 8) (hf : gRm rm rmc maxL cells slots) {c2 n2 : Nat} (hz : cells + rmc.cells = c2) (hz2 : slots + rmc.slots = n2) (hdg : decode cc pc = .ok (.invokestatic index, 3)) (kk : G d x W1 c2 n2 (pc + 3) lv (rest)) : G d x ws cells slots pc lv st :=
  g_callSvD E hc hl0 hM hav (hws.trans (List.append_nil _).symm) hn hst hcat hf hz hz2 hdg (by rw [List.append_nil]; exact kk)
theorem g_callSNi (E : gE d x own cc n rm) {host : String} (hc : gCS y cb maxL ret k) (hl0 : Cond.methodLinkNest own index y host ∈ gNest) {post : Int32 → va_W → Prop} (hM : gMi d y cb maxL ret rmc av W0 post) (hav : av = As) (hws : ws = W0 ++ wr) (hn : As.length = k) (hst : st = As.reverse ++ rest) (hcat : (rest.map fun v => v.category).sum ≤ 8) (hf : gRm rm rmc maxL cells slots) {c2 n2 : Nat} (hz : cells + rmc.cells = c2) (hz2 : slots + rmc.slots = n2) (hdg : decode cc pc = .ok (.invokestatic index, 3)) (kk : ∀ (r : Int32) (u : va_W), post r u → G d x (u ++ wr) c2 n2 (pc + 3) lv (.int r :: rest)) : G d x ws cells slots pc lv st := by
  obtain ⟨p, l, e, R, s, m, args, below, meth, c, A, nL, Q⟩ := x
  obtain ⟨hx, hb, hml, hnL, hown, hts, hK, hZ, hA, hR, hlk⟩ := E
  intro H locs ls hP hD hS hl
  subst hws; subst hst; subst hR; subst hav; subst hz; subst hz2
  exact g_aft_i (va_runSN (As := av) (rest := rest) ⟨hx, hb, hml, hown, hts⟩ (hM l H.size) ⟨gCB.bn hts hc.1 (hK.2.2.2 _ hl0) hf, hts _ hc.2, trivial⟩ ⟨gPre_blind, fun U hU hW => ⟨rfl, g_pre hK hZ hP hD hS hA U hU hW⟩⟩ rfl hn (hl.1.trans hnL) rfl (lv_room hcat) hdg ⟨hf.2.2.1, hf.2.2.2⟩) hP hD hS hA hl kk
theorem g_callSNiD (E : gE d x own cc n rm) {host : String} (hc : gCS y cb maxL ret k) (hl0 : Cond.methodLinkNest own index y host ∈ gNest) {F : Int32} {W1 : va_W} (hM : gMi d y cb maxL ret rmc av W0 (fun r u => r = F ∧ u = W1)) (hav : av = As) (hws : ws = W0 ++ wr) (hn : As.length = k) (hst : st = As.reverse ++ rest) (hcat : (rest.map fun v => v.category).sum ≤ 8) (hf : gRm rm rmc maxL cells slots) {c2 n2 : Nat} (hz : cells + rmc.cells = c2) (hz2 : slots + rmc.slots = n2) (hdg : decode cc pc = .ok (.invokestatic index, 3)) (kk : G d x (W1 ++ wr) c2 n2 (pc + 3) lv (.int F :: rest)) : G d x ws cells slots pc lv st :=
  g_callSNi E hc hl0 hM hav hws hn hst hcat hf hz hz2 hdg (fun r u h => by obtain ⟨rfl, rfl⟩ := h; exact kk)
theorem g_callSNi0 (E : gE d x own cc n rm) {host : String} (hc : gCS y cb maxL ret k) (hl0 : Cond.methodLinkNest own index y host ∈ gNest) {F : Int32} {W1 : va_W} (hM : gMi d y cb maxL ret rmc av W0 (fun r u => r = F ∧ u = W1)) (hav : av = As) (hws : ws = W0) (hn : As.length = k) (hst : st = As.reverse ++ rest) (hcat : (rest.map fun v => v.category).sum ≤ 8) (hf : gRm rm rmc maxL cells slots) {c2 n2 : Nat} (hz : cells + rmc.cells = c2) (hz2 : slots + rmc.slots = n2) (hdg : decode cc pc = .ok (.invokestatic index, 3)) (kk : G d x W1 c2 n2 (pc + 3) lv (.int F :: rest)) : G d x ws cells slots pc lv st :=
  g_callSNiD E hc hl0 hM hav (hws.trans (List.append_nil _).symm) hn hst hcat hf hz hz2 hdg (by rw [List.append_nil]; exact kk)
theorem g_callSNv (E : gE d x own cc n rm) {host : String} (hc : gCS y cb maxL none k) (hl0 : Cond.methodLinkNest own index y host ∈ gNest) {post : va_W → Prop} (hM : gMv d y cb maxL rmc av W0 post) (hav : av = As) (hws : ws = W0 ++ wr) (hn : As.length = k) (hst : st = As.reverse ++ rest) (hcat : (rest.map fun v => v.category).sum ≤ 8) (hf : gRm rm rmc maxL cells slots) {c2 n2 : Nat} (hz : cells + rmc.cells = c2) (hz2 : slots + rmc.slots = n2) (hdg : decode cc pc = .ok (.invokestatic index, 3)) (kk : ∀ (u : va_W), post u → G d x (u ++ wr) c2 n2 (pc + 3) lv rest) : G d x ws cells slots pc lv st := by
  obtain ⟨p, l, e, R, s, m, args, below, meth, c, A, nL, Q⟩ := x
  obtain ⟨hx, hb, hml, hnL, hown, hts, hK, hZ, hA, hR, hlk⟩ := E
  intro H locs ls hP hD hS hl
  subst hws; subst hst; subst hR; subst hav; subst hz; subst hz2
  exact g_aft_v (va_runSN (As := av) (rest := rest) ⟨hx, hb, hml, hown, hts⟩ (hM l H.size) ⟨gCB.bn hts hc.1 (hK.2.2.2 _ hl0) hf, hts _ hc.2, trivial⟩ ⟨gPre_blind, fun U hU hW => ⟨rfl, g_pre hK hZ hP hD hS hA U hU hW⟩⟩ rfl hn (hl.1.trans hnL) rfl (lv_room hcat) hdg ⟨hf.2.2.1, hf.2.2.2⟩) hP hD hS hA hl kk
theorem g_callSNvD (E : gE d x own cc n rm) {host : String} (hc : gCS y cb maxL none k) (hl0 : Cond.methodLinkNest own index y host ∈ gNest) {W1 : va_W} (hM : gMv d y cb maxL rmc av W0 (fun u => u = W1)) (hav : av = As) (hws : ws = W0 ++ wr) (hn : As.length = k) (hst : st = As.reverse ++ rest) (hcat : (rest.map fun v => v.category).sum ≤ 8) (hf : gRm rm rmc maxL cells slots) {c2 n2 : Nat} (hz : cells + rmc.cells = c2) (hz2 : slots + rmc.slots = n2) (hdg : decode cc pc = .ok (.invokestatic index, 3)) (kk : G d x (W1 ++ wr) c2 n2 (pc + 3) lv (rest)) : G d x ws cells slots pc lv st :=
  g_callSNv E hc hl0 hM hav hws hn hst hcat hf hz hz2 hdg (fun u h => by subst h; exact kk)
theorem g_callSNv0 (E : gE d x own cc n rm) {host : String} (hc : gCS y cb maxL none k) (hl0 : Cond.methodLinkNest own index y host ∈ gNest) {W1 : va_W} (hM : gMv d y cb maxL rmc av W0 (fun u => u = W1)) (hav : av = As) (hws : ws = W0) (hn : As.length = k) (hst : st = As.reverse ++ rest) (hcat : (rest.map fun v => v.category).sum ≤ 8) (hf : gRm rm rmc maxL cells slots) {c2 n2 : Nat} (hz : cells + rmc.cells = c2) (hz2 : slots + rmc.slots = n2) (hdg : decode cc pc = .ok (.invokestatic index, 3)) (kk : G d x W1 c2 n2 (pc + 3) lv (rest)) : G d x ws cells slots pc lv st :=
  g_callSNvD E hc hl0 hM hav (hws.trans (List.append_nil _).symm) hn hst hcat hf hz hz2 hdg (by rw [List.append_nil]; exact kk)
theorem g_callIv (E : gE d x own cc n rm) (hc : gCI y cb maxL k) (hl0 : Cond.methodLink own index y ∈ wsL_law) {post : va_W → Prop} (hM : gMv d y cb maxL rmc av W0 post) (hav : av = .ref b :: As) (hws : ws = W0 ++ wr) (hn : As.length = k) (hst : st = As.reverse ++ .ref b :: rest) (hcat : (rest.map fun v => v.category).sum ≤ 8) (hf : gRm rm rmc maxL cells slots) {c2 n2 : Nat} (hz : cells + rmc.cells = c2) (hz2 : slots + rmc.slots = n2) (hdg : decode cc pc = .ok (.invokespecial index, 3)) (kk : ∀ (u : va_W), post u → G d x (u ++ wr) c2 n2 (pc + 3) lv rest) : G d x ws cells slots pc lv st := by
  obtain ⟨p, l, e, R, s, m, args, below, meth, c, A, nL, Q⟩ := x
  obtain ⟨hx, hb, hml, hnL, hown, hts, hK, hZ, hA, hR, hlk⟩ := E
  intro H locs ls hP hD hS hl
  subst hws; subst hst; subst hR; subst hav; subst hz; subst hz2
  exact g_aft_v (va_runI (As := As) (rest := rest) ⟨hx, hb, hml, hown, hts⟩ (hM l H.size) ⟨gCB.b hts hc.1 hl0 hf, hc.2.1, hts _ hc.2.2⟩ ⟨gPre_blind, fun U hU hW => ⟨rfl, g_pre hK hZ hP hD hS hA U hU hW⟩⟩ rfl hn (hl.1.trans hnL) rfl (lv_room hcat) hdg ⟨hf.2.2.1, hf.2.2.2⟩) hP hD hS hA hl kk
theorem g_callIvD (E : gE d x own cc n rm) (hc : gCI y cb maxL k) (hl0 : Cond.methodLink own index y ∈ wsL_law) {W1 : va_W} (hM : gMv d y cb maxL rmc av W0 (fun u => u = W1)) (hav : av = .ref b :: As) (hws : ws = W0 ++ wr) (hn : As.length = k) (hst : st = As.reverse ++ .ref b :: rest) (hcat : (rest.map fun v => v.category).sum ≤ 8) (hf : gRm rm rmc maxL cells slots) {c2 n2 : Nat} (hz : cells + rmc.cells = c2) (hz2 : slots + rmc.slots = n2) (hdg : decode cc pc = .ok (.invokespecial index, 3)) (kk : G d x (W1 ++ wr) c2 n2 (pc + 3) lv (rest)) : G d x ws cells slots pc lv st :=
  g_callIv E hc hl0 hM hav hws hn hst hcat hf hz hz2 hdg (fun u h => by subst h; exact kk)
theorem g_callIv0 (E : gE d x own cc n rm) (hc : gCI y cb maxL k) (hl0 : Cond.methodLink own index y ∈ wsL_law) {W1 : va_W} (hM : gMv d y cb maxL rmc av W0 (fun u => u = W1)) (hav : av = .ref b :: As) (hws : ws = W0) (hn : As.length = k) (hst : st = As.reverse ++ .ref b :: rest) (hcat : (rest.map fun v => v.category).sum ≤ 8) (hf : gRm rm rmc maxL cells slots) {c2 n2 : Nat} (hz : cells + rmc.cells = c2) (hz2 : slots + rmc.slots = n2) (hdg : decode cc pc = .ok (.invokespecial index, 3)) (kk : G d x W1 c2 n2 (pc + 3) lv (rest)) : G d x ws cells slots pc lv st :=
  g_callIvD E hc hl0 hM hav (hws.trans (List.append_nil _).symm) hn hst hcat hf hz hz2 hdg (by rw [List.append_nil]; exact kk)
theorem g_callSp (E : gE d x own cc n rm) (hc : gCS y cb maxL ret k) (hl0 : Cond.methodLink own index y ∈ wsL_law) {F : Int32} (hM : gMi d y cb maxL ret rmc av [] (fun r u => r = F ∧ u = [])) (hav : av = As) (hn : As.length = k) (hst : st = As.reverse ++ rest) (hcat : (rest.map fun v => v.category).sum ≤ 8) (hf : gRm rm rmc maxL cells slots) {c2 n2 : Nat} (hz : cells + rmc.cells = c2) (hz2 : slots + rmc.slots = n2) (hdg : decode cc pc = .ok (.invokestatic index, 3)) (kk : G d x ws c2 n2 (pc + 3) lv (.int F :: rest)) : G d x ws cells slots pc lv st :=
  g_callSiD E hc hl0 hM hav (wr := ws) rfl hn hst hcat hf hz hz2 hdg kk
theorem g_callSNp (E : gE d x own cc n rm) {host : String} (hc : gCS y cb maxL ret k) (hl0 : Cond.methodLinkNest own index y host ∈ gNest) {F : Int32} (hM : gMi d y cb maxL ret rmc av [] (fun r u => r = F ∧ u = [])) (hav : av = As) (hn : As.length = k) (hst : st = As.reverse ++ rest) (hcat : (rest.map fun v => v.category).sum ≤ 8) (hf : gRm rm rmc maxL cells slots) {c2 n2 : Nat} (hz : cells + rmc.cells = c2) (hz2 : slots + rmc.slots = n2) (hdg : decode cc pc = .ok (.invokestatic index, 3)) (kk : G d x ws c2 n2 (pc + 3) lv (.int F :: rest)) : G d x ws cells slots pc lv st :=
  g_callSNiD E hc hl0 hM hav (wr := ws) rfl hn hst hcat hf hz hz2 hdg kk
def gT : gX → Nat → (Nat → Int32) → Prop := fun (_, _, _, _, s, _, _, _, _, _, A, _, _) t f => va_T .int t 7 (fun j => .int (f j)) A s s.heap
def gTF (d : gD) : gX → Nat → Prop := fun (_, _, _, _, s, _, _, _, _, _, A, _, _) t => ∃ cell : Cell, s.heap[t]? = some cell ∧ cell.vm ≠ .unknown ∧ (∀ k, cell.vm ≠ .statics k) ∧ cell.cls = d.2.1 ∧ cell.slots = (vp_cell d.2.1 (7, .inl tabF)).slots ∧ s.vm.findClass "[I" = some d.2.1 ∧ ¬ A t
theorem g_getsL (E : gE d x own cc n rm) (hlink : Cond.fieldLink own index RX4 "LEAST" "[I" ∈ wsL_law) (hdg : decode cc pc = .ok (.getstatic index, 3)) (kk : ∀ t : Nat, gT x t tabL → G d x ws cells slots (pc + 3) lv (.ref t :: st)) : G d x ws cells slots pc lv st := by
  obtain ⟨p, l, e, R, s, m, args, below, meth, c, A, nL, Q⟩ := x
  obtain ⟨hx, hb, hml, hnL, hown, hts, hK, hZ, hA, hR, hlk⟩ := E
  intro H locs ls hP hD hS hl
  obtain ⟨t, h1, h2⟩ := hZ.2.1
  exact va_gets hx hb h1 hS hown (hts _ hlink) (fun _ h9 => h9) hdg (kk t h2 H locs ls hP hD hS hl)
theorem g_getsM (E : gE d x own cc n rm) (hlink : Cond.fieldLink own index RX4 "MOST" "[I" ∈ wsL_law) (hdg : decode cc pc = .ok (.getstatic index, 3)) (kk : ∀ t : Nat, gT x t tabM → G d x ws cells slots (pc + 3) lv (.ref t :: st)) : G d x ws cells slots pc lv st := by
  obtain ⟨p, l, e, R, s, m, args, below, meth, c, A, nL, Q⟩ := x
  obtain ⟨hx, hb, hml, hnL, hown, hts, hK, hZ, hA, hR, hlk⟩ := E
  intro H locs ls hP hD hS hl
  obtain ⟨t, h1, h2⟩ := hZ.2.2
  exact va_gets hx hb h1 hS hown (hts _ hlink) (fun _ h9 => h9) hdg (kk t h2 H locs ls hP hD hS hl)
theorem g_getsF (E : gE d x own cc n rm) (hlink : Cond.fieldLinkNest own index RX4 "FIRST" "[I" RX4 ∈ gNest) (hdg : decode cc pc = .ok (.getstatic index, 3)) (kk : ∀ t : Nat, gTF d x t → G d x ws cells slots (pc + 3) lv (.ref t :: st)) : G d x ws cells slots pc lv st := by
  obtain ⟨p, l, e, R, s, m, args, below, meth, c, A, nL, Q⟩ := x
  obtain ⟨hx, hb, hml, hnL, hown, hts, hK, hZ, hA, hR, hlk⟩ := E
  intro H locs ls hP hD hS hl
  obtain ⟨t, h1, h2⟩ := hZ.1
  exact va_getsN hx hb h1 hS hown (va_Nw.use rfl (hK.2.2.2 _ hlink)) (fun _ h9 => h9) hdg (kk t h2 H locs ls hP hD hS hl)
theorem g_tald (E : gE d x own cc n rm) {t : Nat} {f : Nat → Int32} (ht : gT x t f) {i : Int32} (j : Nat) (hi : i = nI j) (hj : j < 7) (hdg : decode cc pc = .ok (.iaload, 1)) (kk : G d x ws cells slots (pc + 1) lv (.int (f j) :: st)) : G d x ws cells slots pc lv (.int i :: .ref t :: st) := by
  obtain ⟨p, l, e, R, s, m, args, below, meth, c, A, nL, Q⟩ := x
  obtain ⟨hx, hb, hml, hnL, hown, hts, hK, hZ, hA, hR, hlk⟩ := E
  intro H locs ls hP hD hS hl
  subst hi
  refine va_ti hx hb ht hS (vp_in_nI hj (by omega)) rfl hdg ?_
  rw [nI_clamp (by omega)]
  exact kk H locs ls hP hD hS hl
theorem g_cloneF (E : gE d x own cc n rm) {t : Nat} (ht : gTF d x t) (hlink : Cond.methodLink own index ⟨"[I", "clone", "()Ljava/lang/Object;"⟩ ∈ wsL_law) (h1 : 1 ≤ rm.frames) (h2 : (st.map fun v => v.category).sum + 14 ≤ rm.locals) (h3 : cells + 1 ≤ rm.cells) (h4 : slots + 7 ≤ rm.slots) (hdg : decode cc pc = .ok (.invokevirtual index, 3)) (kk : ∀ q : Nat, (∀ z ∈ ws, z.1 ≠ q) → G d x (ws ++ [(q, .inl (d.2.1, 7, .inl tabF))]) (cells + 1) (slots + 7) (pc + 3) lv (.ref q :: st)) : G d x ws cells slots pc lv (.ref t :: st) := by
  obtain ⟨p, l, e, R, s, m, args, below, meth, c, A, nL, Q⟩ := x
  obtain ⟨hx, hb, hml, hnL, hown, hts, hK, hZ, hA, hR, hlk⟩ := E
  intro H locs ls hP hD hS hl
  subst hR
  obtain ⟨cell, q1, q2, q3, q4, q5, q6, q7⟩ := ht
  have hsz : cell.slots.size = 7 := by rw [q5]; exact arrV_size _ _ _
  obtain ⟨c0, t0', f1, f2, f3⟩ := Cond.castable_spec (va_Nw.use (A := args) rfl hK.2.2.1)
  cases q6.symm.trans f1
  have hcellE : ({ cls := cell.cls, slots := cell.slots } : Cell) = vp_cell d.2.1 (7, .inl tabF) := by rw [q4, q5]; rfl
  intro T hT X
  have hcellT : T.heap[t]? = some cell := by rw [hT, hS.2.1 t (Array.getElem?_eq_some_iff.mp q1).1 q7]; exact q1
  obtain ⟨-, kA, hkA, comp, hkind⟩ := State.isArrayOf_alike X.warmed.alike ((hK.1.2 0 (d.2.1, .int) rfl).1 0 (fun _ => .null))
  obtain ⟨-, kS, hkS, compS, hkindS⟩ := (hK.1.2 0 (d.2.1, .int) rfl).1 0 (fun _ => .null)
  obtain ⟨vm', X', st'⟩ := X.cloneArray hx hown (hts _ hlink) (hts _ ux_same) (hts _ ux_nat) (hts _ ux_inst) (hts _ ux_sel) (a := t) (cell := cell) hcellT q3 q2 (by rw [q4]; exact q6) f2 (by rw [q4]; exact f3)
    (fun i v hv => by
      rw [q4]
      have hk' : T.vm.classes[d.2.1]? = some kA := hkA
      have hfv : fits .int v = true := by
        rw [q5] at hv
        have hi : i < 7 := by
          have := (Array.getElem?_eq_some_iff.mp hv).1
          rw [show (vp_cell d.2.1 (7, .inl tabF)).slots.size = 7 from arrV_size _ _ _] at this
          exact this
        have h8 : (vp_cell d.2.1 (7, .inl tabF)).slots[i]? = some (.int (tabF i)) := arrV_read _ _ hi
        rw [h8] at hv
        cases hv
        rfl
      simpa [State.fitsSlot, State.slotType?, hk', hkind] using hfv)
    (g := F0 m pc ls (.ref t :: st)) rfl (by rw [hml]; exact hl.1.trans hnL) rfl (by rw [hb]; exact hdg) h1 (by show 2 * 0 + _ + 14 ≤ _; omega) h3 (by rw [hsz]; exact h4) (hloader := by rw [q4]; exact Vm.clonesLoader_of_array hkS hkindS)
  rw [hcellE, hsz] at X'
  generalize hH1 : H.push (vp_cell d.2.1 (7, .inl tabF)) = H1
  have e1 : H1[H.size]? = some (vp_cell d.2.1 (7, .inl tabF)) := by rw [← hH1, Array.getElem?_push_size]
  have z1 : H1.size = H.size + 1 := by rw [← hH1, Array.size_push]
  have o1 : ∀ q : Nat, q < H.size → H1[q]? = H[q]? := fun q hq => by rw [← hH1, Array.getElem?_push, if_neg (Nat.ne_of_lt hq)]
  have hk : ∀ (k : Nat) (y : Nat × va_E), ws[k]? = some y → H1[y.1]? = H[y.1]? := fun k y hy => o1 y.1 ((hP k y hy).lt)
  have hD1 : va_D A (ws ++ [(H.size, .inl (d.2.1, 7, .inl tabF))]) := hD.push hP rfl (hA _ hS.1)
  obtain ⟨t1, b1, b2⟩ := kk H.size (fun z hz e => by
    obtain ⟨k, hk⟩ := List.getElem?_of_mem hz
    have := (hP k z hk).lt
    omega) H1 locs ls ((hP.kept hk).app (fun k y hy => by
      have hz : k < 1 := (List.getElem?_eq_some_iff.mp hy).1
      rw [show k = 0 by omega] at hy
      cases hy
      exact e1)) hD1 ⟨Nat.le_trans hS.1 (by omega), fun y h1 h2 => (o1 y (Nat.lt_of_lt_of_le h1 hS.1)).trans (hS.2.1 y h1 h2), hS.2.2⟩ hl
    ((T.setVm vm').pushCell (vp_cell d.2.1 (7, .inl tabF))) (by rw [← hH1, ← hT]; rfl) X'
  refine ⟨t1, st' t1 ?_, b2⟩
  rw [hcellE, hT]
  exact b1
theorem g_castI (E : gE d x own cc n rm) {a : Nat} {z : vp_A} (q0 : Nat) (ha : ws[q0]? = some (a, .inl (d.2.1, z))) {t : Nat} (ht : gTF d x t) (hlink : Cond.classLink own index "[I" ∈ wsL_law) (hdg : decode cc pc = .ok (.checkcast index, 3)) (kk : G d x ws cells slots (pc + 3) lv (.ref a :: st)) : G d x ws cells slots pc lv (.ref a :: st) := by
  obtain ⟨p, l, e, R, s, m, args, below, meth, c, A, nL, Q⟩ := x
  obtain ⟨hx, hb, hml, hnL, hown, hts, hK, hZ, hA, hR, hlk⟩ := E
  intro H locs ls hP hD hS hl
  obtain ⟨cell, q1, q2, q3, q4, q5, q6, q7⟩ := ht
  exact va_castA hx hb hown (hts _ hlink) hP q0 ha q6 hdg (kk H locs ls hP hD hS hl)
theorem g_copyAll (E : gE d x own cc n rm) (q0 q1 : Nat) {a0 a N : Nat} {f g : Nat → Int32} (ha0 : ws[q0]? = some (a0, .inl (d.2.1, N, .inl f))) (ha1 : ws[q1]? = some (a, .inl (d.2.1, N, .inl g))) {i0 i1 i2 : Int32} (h0 : i0 = nI 0) (h1 : i1 = nI 0) (h2 : i2 = nI N) (hN : N < 65536) (hlink : Cond.methodLink own index arraycopyName ∈ wsL_law) (hf1 : 1 ≤ rm.frames) (hf2 : (st.map fun v => v.category).sum + (nativeFrameWords "java/lang/System" "arraycopy" 5 + 11) ≤ rm.locals) {ws' : va_W} (hws : ws.set q1 (a, .inl (d.2.1, N, .inl f)) = ws') (hdg : decode cc pc = .ok (.invokestatic index, 3)) (kk : G d x ws' cells slots (pc + 3) lv st) : G d x ws cells slots pc lv (.int i2 :: .int i1 :: .ref a :: .int i0 :: .ref a0 :: st) := by
  have key : G d x (ws.set q1 (a, .inl (d.2.1, N, .inl (va_cpy f g 0 0 N)))) cells slots (pc + 3) lv st := by
    refine g_cell q1 (f := va_cpy f g 0 0 N) (f' := f) (a := a) (n' := N) (cA := d.2.1) ?_ (fun j hj => pk_cpy_in0 hj) ?_
    · rw [List.getElem?_set_self (List.getElem?_eq_some_iff.mp ha1).1]
    · rw [List.set_set, hws]
      exact kk
  obtain ⟨p, l, e, R, s, m, args, below, meth, c, A, nL, Q⟩ := x
  obtain ⟨hx, hb, hml, hnL, hown, hts, hK, hZ, hA, hR, hlk⟩ := E
  intro H locs ls hP hD hS hl
  subst h0; subst h1; subst h2; subst hR
  have c0 : (nI 0).toNatClampNeg = 0 := nI_clamp (by omega)
  have cN : (nI N).toNatClampNeg = N := nI_clamp (by omega)
  refine va_copyi hx hb (by rw [hml, hl.1, hnL]) hown (hts _ hlink) (hts _ ux_cnat) (hts _ sm_arraycopyName) (hts _ it_java_lang_System) hK.1 hP hD hS q0 q1 0 0 ha0 ha1 rfl rfl rfl (nI_pos (by omega)) (nI_pos (by omega)) (nI_pos (by omega)) (by rw [c0, cN]; omega) (by rw [c0, cN]; omega) (fun i _ => rfl) hf1 hf2 hdg (fun H1 locs1 hP1 hD1 hS1 => ?_)
  rw [c0, cN] at hP1 hD1
  exact key H1 locs1 ls hP1 hD1 hS1 hl
end GC
theorem met_ofWF {l : Launch} {y : MethodName} {ws ws' : List Cond} {rm : Room} {Pc : Array Value → State → Prop} {Qc : Array Value → State → Outcome → State → Prop} {mc ms : Nat} {free : Addr → Prop} {cc : ByteArray} {maxL : Nat} {ret : Option FieldType}
    (hy : plainFor y = true) (hw : ws = Cond.code y cc maxL ret :: ws')
    (body : ∀ p e s m args below meth c s₁, BodyLoose p l y (headSpec ws rm) cc maxL ret e s m args below meth c s₁ → c.maxLocals = maxL → Pc args s →
      W p l e (headSpec ws rm).room s m args below meth c s.heap [] 0 0 (MQ below Qc args s mc ms free) (entryFrame m args maxL)) : Met l y ws rm Pc Qc mc ms free := by
  refine MetFree.of_bodyRF (code := cc) (maxLocals := maxL) (ret := ret) hy ?_ ?_
  · intro args s m h hn
    obtain ⟨meth, c, h1, h2, h3, h4, h5, h6, -, -⟩ := Cond.code_spec hn (atoms_spec (ws := ws) h _ (by rw [hw]; exact List.mem_cons_self))
    exact ⟨meth, c, h1, h2, h3, h4, h5, h6⟩
  · intro p e s m args below meth c s₁ B hml hP _ hst
    have hh0 : s₁.heap = s.heap := by rw [B.state]; rfl
    obtain ⟨t, a1, o, b1, b2, b3⟩ := body p e s m args below meth c s₁ B hml hP s₁ hh0 (Stand.of_body B)
    exact ⟨t, o, hst.trans a1, b1, b2, ⟨b3.1, b3.2⟩⟩
/-- a method is proved by a walk of its body from the entry; RET: what its end wants -/
theorem g_met_i {d : gD} {y : MethodName} {cb : ByteArray} {maxL : Nat} {rt : FieldType} {rm : Room} {av : List Value} {W0 : va_W} {post : Int32 → va_W → Prop} (own : String) (hown : y.cls = own) (hy : plainFor y = true) (hlen : (lg_sl av).length ≤ maxL) (lv0 : List (Nat × Value)) (hlv : lv_args 0 av = lv0)
    (body : ∀ x : gX, gE d x own cb maxL rm → (∀ (pc : Nat) (lv : List (Nat × Value)) (v : Int32) (u : va_W), decode cb pc = .ok (.ireturn, 1) → narrow rt (.int v) = .int v → post v u → G d x u rm.cells rm.slots pc lv [.int v]) → G d x W0 0 0 0 lv0 []) : gMi d y cb maxL (some rt) rm av W0 post := by
  intro l sz
  refine met_ofWF (cc := cb) (maxL := maxL) (ret := some rt) hy rfl ?_
  intro p e s m args below meth c s₁ B hml hv
  obtain ⟨rfl, hsz, hP, hK, hD0, hZ⟩ := hv
  have hx := B.exec
  have hb := B.bytes
  have hr := B.returns
  have hts := atoms_spec (ws := uw y cb maxL (some rt)) B.pre
  have hfc := findClass_of_methodNamed B.named
  rw [hown] at hfc
  have hlocks := B.notSynchronized
  subst hsz
  have hD := hD0.self (sz := s.heap.size)
  have hl := lv_entry av hlen
  rw [hlv] at hl
  rw [lg_entry_eq]
  refine body (p, l, e, rm, s, m, av.toArray, below, meth, c, va_A W0 s.heap.size, maxL, MQ below (gQi d W0 post s.heap.size) av.toArray s rm.cells rm.slots (va_A W0 s.heap.size)) ⟨hx, hb, hml, rfl, hfc, fun w hw => hts w (List.mem_cons_of_mem _ hw), hK, hZ, fun q h => Or.inr h, rfl, hlocks⟩ ?_ s.heap [] _ hP hD va_S.rf hl
  intro pc lv v u hdg hn hp H locs ls hP hD hS hl
  exact W.zret hx hb hr hn (fun t ht hW => ⟨⟨v, u, rfl, hp, by rw [ht]; exact hP, hD⟩, hS.F ht⟩) hS.2.2 hdg
theorem g_met_v {d : gD} {y : MethodName} {cb : ByteArray} {maxL : Nat} {rm : Room} {av : List Value} {W0 : va_W} {post : va_W → Prop} (own : String) (hown : y.cls = own) (hy : plainFor y = true) (hlen : (lg_sl av).length ≤ maxL) (lv0 : List (Nat × Value)) (hlv : lv_args 0 av = lv0)
    (body : ∀ x : gX, gE d x own cb maxL rm → (y.name = "<init>" → gInit x) → (∀ (pc : Nat) (lv : List (Nat × Value)) (u : va_W), decode cb pc = .ok (.return_, 1) → post u → G d x u rm.cells rm.slots pc lv []) → G d x W0 0 0 0 lv0 []) : gMv d y cb maxL rm av W0 post := by
  intro l sz
  refine met_ofWF (cc := cb) (maxL := maxL) (ret := none) hy rfl ?_
  intro p e s m args below meth c s₁ B hml hv
  obtain ⟨rfl, hsz, hP, hK, hD0, hZ⟩ := hv
  have hx := B.exec
  have hb := B.bytes
  have hr := B.returns
  have hts := atoms_spec (ws := uw y cb maxL none) B.pre
  have hfc := findClass_of_methodNamed B.named
  rw [hown] at hfc
  have hlocks := B.notSynchronized
  have hin := (name_of_methodNamed B.named B.method).1
  subst hsz
  have hD := hD0.self (sz := s.heap.size)
  have hl := lv_entry av hlen
  rw [hlv] at hl
  rw [lg_entry_eq]
  refine body (p, l, e, rm, s, m, av.toArray, below, meth, c, va_A W0 s.heap.size, maxL, MQ below (gQv d W0 post s.heap.size) av.toArray s rm.cells rm.slots (va_A W0 s.heap.size)) ⟨hx, hb, hml, rfl, hfc, fun w hw => hts w (List.mem_cons_of_mem _ hw), hK, hZ, fun q h => Or.inr h, rfl, hlocks⟩ (fun h => hin.trans h) ?_ s.heap [] _ hP hD va_S.rf hl
  intro pc lv u hdg hp H locs ls hP hD hS hl
  exact W.vret hx hb hr (fun t ht hW => ⟨⟨u, rfl, hp, by rw [ht]; exact hP, hD⟩, hS.F ht⟩) hS.2.2 hdg
end
section
/-! the states of the class's parts and of the reference, and their cells -/
theorem ok_le {a b : Nat} (h : Nat.ble a b = true) : a ≤ b := Nat.le_of_ble_eq_true h
theorem ok_lt {a b : Nat} (h : Nat.ble (a + 1) b = true) : a < b := Nat.le_of_ble_eq_true h
def iabs (a : Int32) : Int32 := if 0 ≤ a then a else 0 - a
def imax (a b : Int32) : Int32 := if a < b then b else a
def imin (a b : Int32) : Int32 := if b < a then b else a
/-- Directions: the scalars (unlike, latest, run), byRank, samplesIn, longest -/
abbrev DD : Type := (Nat → Int32) × (Nat → Int32) × (Nat → Int32) × (Nat → Int32)
/-- Stick: the scalars, the settings, the directions -/
abbrev SS : Type := (Nat → Int32) × (Nat → Int32) × DD
/-- Pad: the scalars (length, place, kind, first, second, times), the text -/
abbrev PP : Type := (Nat → Int32) × (Nat → Int32)
/-- the reference beside its row s: past, known, slots, isSaved, pad, length -/
abbrev MR : Type := (Nat → Int32) × Int32 × (Nat → Int32) × (Nat → Int32) × (Nat → Int32) × Int32
def DK (d : gD) (a : Nat → Nat) (D : DD) : va_W := [(a 2, .inr (0, [.ref (a 3), .ref (a 4), .ref (a 5), .int (D.1 0), .int (D.1 1), .int (D.1 2)])), (a 3, .inl (d.2.1, 9, .inl D.2.1)), (a 4, .inl (d.2.1, 9, .inl D.2.2.1)), (a 5, .inl (d.2.1, 9, .inl D.2.2.2))]
def SO (d : gD) (a : Nat → Nat) (g st : Nat → Int32) : va_W := [(a 0, .inr (3, [.ref (a 1), .ref (a 2), .int (g 7), .int (g 8), .int (g 9), .int (g 14), .int (g 15), .int (g 10), .int (g 11), .int (g 12), .int (g 13), .int (g 21), .int (g 16), .int (g 17), .int (g 18), .int (g 19), .int (g 20)])), (a 1, .inl (d.2.1, 7, .inl st))]
def SK (d : gD) (a : Nat → Nat) (S : SS) : va_W := DK d a S.2.2 ++ SO d a S.1 S.2.1
theorem SK_mk (d : gD) (a : Nat → Nat) (g st : Nat → Int32) (D : DD) : DK d a D ++ SO d a g st = SK d a (g, st, D) := rfl
theorem SK_mk2 (d : gD) (a : Nat → Nat) (g st : Nat → Int32) (D : DD) (b : Nat → Nat) (g2 st2 : Nat → Int32) (D2 : DD) : (DK d a D ++ SO d a g st) ++ (DK d b D2 ++ SO d b g2 st2) = SK d a (g, st, D) ++ SK d b (g2, st2, D2) := rfl
def PK (d : gD) (a : Nat → Nat) (h t : Nat → Int32) : va_W := [(a 0, .inr (2, [.ref (a 1), .int (h 0), .int (h 1), .int (h 2), .int (h 3), .int (h 4), .int (h 5)])), (a 1, .inl (d.2.2.1, 80, .inl t))]
/-- a row of characters -/
def chT (t : Nat → Int32) : Prop := ∀ j, narrow .char (.int (t j)) = .int (t j) ∧ fits .char (.int (t j)) = true
def MW (d : gD) (a : Nat → Nat) (s : Nat → Int32) (Z : MR) : va_W := [(a 0, .inr (5, [.ref (a 1), .ref (a 2), .int Z.2.1, .ref (a 3), .ref (a 4), .ref (a 5), .int Z.2.2.2.2.2])), (a 1, .inl (d.2.1, 122, .inl s)), (a 2, .inl (d.2.1, 366, .inl Z.1)), (a 3, .inl (d.2.1, 122, .inl Z.2.2.1)), (a 4, .inl (d.2.2.2.1, 2, .inl Z.2.2.2.1)), (a 5, .inl (d.2.1, 80, .inl Z.2.2.2.2.1))]
/-- a row of 61 ints at the place p of a longer one -/
def pr (p : Nat) (r f : Nat → Int32) : Nat → Int32 := fun j => if p ≤ j ∧ j < p + 61 then r (j - p) else f j
theorem pr_get {p k : Nat} {r f : Nat → Int32} (hk : k < 61) : pr p r f (p + k) = r k := by
  unfold pr
  rw [if_pos (by omega), Nat.add_sub_cancel_left]
theorem pr_put {p k : Nat} {r f : Nat → Int32} {v : Int32} (hk : k < 61) : upd (pr p r f) (p + k) v = pr p (upd r k v) f := by
  funext j
  unfold upd pr
  by_cases h : j = p + k
  · subst h
    rw [if_pos rfl, if_pos (by omega), Nat.add_sub_cancel_left]
    exact (if_pos rfl).symm
  · rw [if_neg h]
    by_cases h2 : p ≤ j ∧ j < p + 61
    · rw [if_pos h2, if_pos h2]
      exact (if_neg (by omega)).symm
    · rw [if_neg h2, if_neg h2]
theorem pr_self (p : Nat) (f : Nat → Int32) : pr p (fun k => f (p + k)) f = f := by
  funext j
  unfold pr
  by_cases h : p ≤ j ∧ j < p + 61
  · rw [if_pos h]
    show f (p + (j - p)) = f j
    rw [Nat.add_sub_cancel' h.1]
  · rw [if_neg h]
theorem ix_eq {e : Int32} (h : ¬ e < 0) : e = nI e.toNatClampNeg := by
  obtain ⟨j, hj, rfl⟩ := nI_of h
  rw [nI_clamp hj]
theorem ix_lt {e : Int32} {N : Nat} (h0 : ¬ e < 0) (h : e < nI N) (hN : N < 2 ^ 31 := by decide) : e.toNatClampNeg < N := by
  obtain ⟨j, hj, rfl⟩ := nI_of h0
  rw [nI_clamp hj]
  exact (nI_ltI hj hN).mp h
theorem perm4 {α : Type} (a b c e : List α) : List.Perm ((a ++ b) ++ (c ++ e)) ((a ++ c) ++ (b ++ e)) := by
  rw [List.append_assoc, List.append_assoc]
  exact List.Perm.append_left a (List.perm_append_comm_assoc b c e)
theorem nar_b {r : Int32} (h : r = 0 ∨ r = 1) : narrow .boolean (.int r) = .int r := by
  rcases h with rfl | rfl <;> rfl
theorem ti_bmod {n : Int} (h1 : -2147483648 ≤ n) (h2 : n < 2147483648) : n.bmod (2 ^ 32) = n := Int.bmod_eq_of_le (by omega) (by omega)
theorem ti_add {a b : Int32} (h1 : -2147483648 ≤ a.toInt + b.toInt) (h2 : a.toInt + b.toInt < 2147483648) : (a + b).toInt = a.toInt + b.toInt := by
  rw [Int32.toInt_add, ti_bmod h1 h2]
theorem ti_sub {a b : Int32} (h1 : -2147483648 ≤ a.toInt - b.toInt) (h2 : a.toInt - b.toInt < 2147483648) : (a - b).toInt = a.toInt - b.toInt := by
  rw [Int32.toInt_sub, ti_bmod h1 h2]
theorem ti_mul {a b : Int32} (h1 : -2147483648 ≤ a.toInt * b.toInt) (h2 : a.toInt * b.toInt < 2147483648) : (a * b).toInt = a.toInt * b.toInt := by
  rw [Int32.toInt_mul, ti_bmod h1 h2]
theorem ti_rng (a : Int32) : -2147483648 ≤ a.toInt ∧ a.toInt < 2147483648 := ⟨Int32.le_toInt a, Int32.toInt_lt a⟩
theorem ti_lt {a b : Int32} : a < b ↔ a.toInt < b.toInt := Int32.lt_iff_toInt_lt
theorem ti_le {a b : Int32} : a ≤ b ↔ a.toInt ≤ b.toInt := Int32.le_iff_toInt_le
theorem ti_eq {a b : Int32} : a = b ↔ a.toInt = b.toInt := Int32.toInt_inj.symm
section GM
variable {d : gD} {x : gX} {own : String} {cc : ByteArray} {n : Nat} {rm : Room} {ws : va_W} {cells slots pc : Nat} {lv : List (Nat × Value)} {st : List Value}
theorem g_mget (E : gE d x own cc n rm) {p : Nat} {r f : Nat → Int32} {a N : Nat} {cA : ClassId} (q0 : Nat) (ha : ws[q0]? = some (a, .inl (cA, N, .inl (pr p r f)))) (ht : (gTys d)[0]? = some (cA, .int)) {i : Int32} (k : Nat) (hi : i = nI (p + k)) (hk : k < 61) (hp : p + k < N ∧ N < 2 ^ 31) (hdg : decode cc pc = .ok (.iaload, 1)) (kk : G d x ws cells slots (pc + 1) lv (.int (r k) :: st)) : G d x ws cells slots pc lv (.int i :: .ref a :: st) := by
  refine g_iald E q0 ha ht (p + k) hi hp.1 hp.2 hdg ?_
  rw [pr_get hk]
  exact kk
theorem g_mput (E : gE d x own cc n rm) {p : Nat} {r f : Nat → Int32} {a N : Nat} {cA : ClassId} (q0 : Nat) (ha : ws[q0]? = some (a, .inl (cA, N, .inl (pr p r f)))) (ht : (gTys d)[0]? = some (cA, .int)) {i v : Int32} (k : Nat) (hi : i = nI (p + k)) (hk : k < 61) (hp : p + k < N ∧ N < 2 ^ 31) {ws' : va_W} (hws : ws.set q0 (a, .inl (cA, N, .inl (pr p (upd r k v) f))) = ws') (hdg : decode cc pc = .ok (.iastore, 1)) (kk : G d x ws' cells slots (pc + 1) lv st) : G d x ws cells slots pc lv (.int v :: .int i :: .ref a :: st) := by
  refine g_iast E q0 ha ht (p + k) hi hp.1 hp.2 (by rw [pr_put hk]; exact hws) hdg kk
end GM
theorem gc_X4_init : gCI yX4_init cX4_init 1 0 := ⟨⟨co_X4_init, it_RX4, by decide +kernel, by decide +kernel⟩, by decide +kernel, im_X4_init⟩
theorem gc_X3_init : gCI yX3_init cX3_init 1 0 := ⟨⟨co_X3_init, it_RX3, by decide +kernel, by decide +kernel⟩, by decide +kernel, im_X3_init⟩
theorem gc_X0_init : gCI yX0_init cX0_init 1 0 := ⟨⟨co_X0_init, it_RX0, by decide +kernel, by decide +kernel⟩, by decide +kernel, im_X0_init⟩
theorem gc_X2_init : gCI yX2_init cX2_init 1 0 := ⟨⟨co_X2_init, it_RX2, by decide +kernel, by decide +kernel⟩, by decide +kernel, im_X2_init⟩
theorem gc_X1_init : gCI yX1_init cX1_init 1 0 := ⟨⟨co_X1_init, it_RX1, by decide +kernel, by decide +kernel⟩, by decide +kernel, im_X1_init⟩
theorem gc_L_isStick : gCS yL_isStick cL_isStick 11 (some .boolean) 1 := ⟨⟨co_L_isStick, it_RL, by decide +kernel, by decide +kernel⟩, sm_L_isStick⟩
theorem gc_X4_count : gCV RX4 yX4_count cX4_count 2 (some .int) 1 := ⟨⟨co_X4_count, it_RX4, by decide +kernel, by decide +kernel⟩, im_X4_count, se_X4_count⟩
theorem gc_X3_number : gCV RX3 yX3_number cX3_number 2 (some .int) 1 := ⟨⟨co_X3_number, it_RX3, by decide +kernel, by decide +kernel⟩, im_X3_number, se_X3_number⟩
theorem gc_X4_of : gCV RX4 yX4_of cX4_of 3 (some .int) 2 := ⟨⟨co_X4_of, it_RX4, by decide +kernel, by decide +kernel⟩, im_X4_of, se_X4_of⟩
theorem gc_X3_aboutX : gCV RX3 yX3_aboutX cX3_aboutX 2 (some .int) 1 := ⟨⟨co_X3_aboutX, it_RX3, by decide +kernel, by decide +kernel⟩, im_X3_aboutX, se_X3_aboutX⟩
theorem gc_X3_about : gCV RX3 yX3_about cX3_about 5 (some .int) 4 := ⟨⟨co_X3_about, it_RX3, by decide +kernel, by decide +kernel⟩, im_X3_about, se_X3_about⟩
theorem gc_X3_aboutY : gCV RX3 yX3_aboutY cX3_aboutY 2 (some .int) 1 := ⟨⟨co_X3_aboutY, it_RX3, by decide +kernel, by decide +kernel⟩, im_X3_aboutY, se_X3_aboutY⟩
theorem gc_L_size : gCS yL_size cL_size 1 (some .int) 1 := ⟨⟨co_L_size, it_RL, by decide +kernel, by decide +kernel⟩, sm_L_size⟩
theorem gc_X4_direction : gCV RX4 yX4_direction cX4_direction 3 (some .int) 2 := ⟨⟨co_X4_direction, it_RX4, by decide +kernel, by decide +kernel⟩, im_X4_direction, se_X4_direction⟩
theorem gc_X0_about : gCV RX0 yX0_about cX0_about 4 (some .int) 2 := ⟨⟨co_X0_about, it_RX0, by decide +kernel, by decide +kernel⟩, im_X0_about, se_X0_about⟩
theorem gc_X4_wouldTell : gCV RX4 yX4_wouldTell cX4_wouldTell 3 (some .int) 2 := ⟨⟨co_X4_wouldTell, it_RX4, by decide +kernel, by decide +kernel⟩, im_X4_wouldTell, se_X4_wouldTell⟩
theorem gc_X4_isSample : gCS yX4_isSample cX4_isSample 2 (some .boolean) 2 := ⟨⟨co_X4_isSample, it_RX4, by decide +kernel, by decide +kernel⟩, sm_X4_isSample⟩
theorem gc_X3_tellingAt : gCV RX3 yX3_tellingAt cX3_tellingAt 7 (some .int) 2 := ⟨⟨co_X3_tellingAt, it_RX3, by decide +kernel, by decide +kernel⟩, im_X3_tellingAt, se_X3_tellingAt⟩
theorem gc_X3_farthestOff : gCV RX3 yX3_farthestOff cX3_farthestOff 3 (some .int) 2 := ⟨⟨co_X3_farthestOff, it_RX3, by decide +kernel, by decide +kernel⟩, im_X3_farthestOff, se_X3_farthestOff⟩
theorem gc_X3_restPlaceX : gCV RX3 yX3_restPlaceX cX3_restPlaceX 1 (some .int) 0 := ⟨⟨co_X3_restPlaceX, it_RX3, by decide +kernel, by decide +kernel⟩, im_X3_restPlaceX, se_X3_restPlaceX⟩
theorem gc_X3_restPlaceY : gCV RX3 yX3_restPlaceY cX3_restPlaceY 1 (some .int) 0 := ⟨⟨co_X3_restPlaceY, it_RX3, by decide +kernel, by decide +kernel⟩, im_X3_restPlaceY, se_X3_restPlaceY⟩
theorem gc_X3_wouldDrift : gCV RX3 yX3_wouldDrift cX3_wouldDrift 4 (some .boolean) 2 := ⟨⟨co_X3_wouldDrift, it_RX3, by decide +kernel, by decide +kernel⟩, im_X3_wouldDrift, se_X3_wouldDrift⟩
theorem gc_X3_stillWith : gCV RX3 yX3_stillWith cX3_stillWith 4 (some .int) 2 := ⟨⟨co_X3_stillWith, it_RX3, by decide +kernel, by decide +kernel⟩, im_X3_stillWith, se_X3_stillWith⟩
theorem gc_X4_packed : gCS yX4_packed cX4_packed 2 (some .int) 2 := ⟨⟨co_X4_packed, it_RX4, by decide +kernel, by decide +kernel⟩, sm_X4_packed⟩
theorem gc_X3_leanOf : gCV RX3 yX3_leanOf cX3_leanOf 4 (some .int) 1 := ⟨⟨co_X3_leanOf, it_RX3, by decide +kernel, by decide +kernel⟩, im_X3_leanOf, se_X3_leanOf⟩
theorem gc_X4_quotient : gCS yX4_quotient cX4_quotient 2 (some .int) 2 := ⟨⟨co_X4_quotient, it_RX4, by decide +kernel, by decide +kernel⟩, sm_X4_quotient⟩
theorem gc_X4_learnedIn : gCV RX4 yX4_learnedIn cX4_learnedIn 4 (some .int) 2 := ⟨⟨co_X4_learnedIn, it_RX4, by decide +kernel, by decide +kernel⟩, im_X4_learnedIn, se_X4_learnedIn⟩
theorem gc_X3_becomeLike : gCV RX3 yX3_becomeLike cX3_becomeLike 2 none 1 := ⟨⟨co_X3_becomeLike, it_RX3, by decide +kernel, by decide +kernel⟩, im_X3_becomeLike, se_X3_becomeLike⟩
theorem gc_X0_becomeLike : gCV RX0 yX0_becomeLike cX0_becomeLike 2 none 1 := ⟨⟨co_X0_becomeLike, it_RX0, by decide +kernel, by decide +kernel⟩, im_X0_becomeLike, se_X0_becomeLike⟩
theorem gc_X3_isOffByNothing : gCV RX3 yX3_isOffByNothing cX3_isOffByNothing 3 (some .boolean) 2 := ⟨⟨co_X3_isOffByNothing, it_RX3, by decide +kernel, by decide +kernel⟩, im_X3_isOffByNothing, se_X3_isOffByNothing⟩
theorem gc_X3_take : gCV RX3 yX3_take cX3_take 6 none 2 := ⟨⟨co_X3_take, it_RX3, by decide +kernel, by decide +kernel⟩, im_X3_take, se_X3_take⟩
theorem gc_X3_comeToRest : gCV RX3 yX3_comeToRest cX3_comeToRest 3 none 2 := ⟨⟨co_X3_comeToRest, it_RX3, by decide +kernel, by decide +kernel⟩, im_X3_comeToRest, se_X3_comeToRest⟩
theorem gc_X3_tellsSomething : gCV RX3 yX3_tellsSomething cX3_tellsSomething 1 (some .boolean) 0 := ⟨⟨co_X3_tellsSomething, it_RX3, by decide +kernel, by decide +kernel⟩, im_X3_tellsSomething, se_X3_tellsSomething⟩
theorem gc_X3_fitZone : gCV RX3 yX3_fitZone cX3_fitZone 2 none 1 := ⟨⟨co_X3_fitZone, it_RX3, by decide +kernel, by decide +kernel⟩, im_X3_fitZone, se_X3_fitZone⟩
theorem gc_X3_driftTo : gCV RX3 yX3_driftTo cX3_driftTo 3 none 2 := ⟨⟨co_X3_driftTo, it_RX3, by decide +kernel, by decide +kernel⟩, im_X3_driftTo, se_X3_driftTo⟩
theorem gc_X3_tell : gCV RX3 yX3_tell cX3_tell 2 none 1 := ⟨⟨co_X3_tell, it_RX3, by decide +kernel, by decide +kernel⟩, im_X3_tell, se_X3_tell⟩
theorem gc_J6_compare_7cf53 : gCS yJ6_compare_7cf53 cJ6_compare_7cf53 2 (some .int) 2 := ⟨⟨co_J6_compare_7cf53, it_RJ6, by decide +kernel, by decide +kernel⟩, sm_J6_compare_7cf53⟩
theorem gc_X0_note : gCV RX0 yX0_note cX0_note 4 none 2 := ⟨⟨co_X0_note, it_RX0, by decide +kernel, by decide +kernel⟩, im_X0_note, se_X0_note⟩
theorem gc_X4_undo : gCV RX4 yX4_undo cX4_undo 1 (some .int) 0 := ⟨⟨co_X4_undo, it_RX4, by decide +kernel, by decide +kernel⟩, im_X4_undo, se_X4_undo⟩
theorem gc_X1_takeBack : gCV RX1 yX1_takeBack cX1_takeBack 4 (some .int) 1 := ⟨⟨co_X1_takeBack, it_RX1, by decide +kernel, by decide +kernel⟩, im_X1_takeBack, se_X1_takeBack⟩
theorem gc_X1_placeOf : gCV RX1 yX1_placeOf cX1_placeOf 2 (some .int) 1 := ⟨⟨co_X1_placeOf, it_RX1, by decide +kernel, by decide +kernel⟩, im_X1_placeOf, se_X1_placeOf⟩
theorem gc_J9_floorMod_7cf53 : gCS yJ9_floorMod_7cf53 cJ9_floorMod_7cf53 3 (some .int) 2 := ⟨⟨co_J9_floorMod_7cf53, it_RJ9, by decide +kernel, by decide +kernel⟩, sm_J9_floorMod_7cf53⟩
theorem gc_L_cell : gCS yL_cell cL_cell 2 (some .int) 2 := ⟨⟨co_L_cell, it_RL, by decide +kernel, by decide +kernel⟩, sm_L_cell⟩
theorem gc_L_does : gCS yL_does cL_does 20 (some .boolean) 3 := ⟨⟨co_L_does, it_RL, by decide +kernel, by decide +kernel⟩, sm_L_does⟩
theorem gc_L_low : gCS yL_low cL_low 2 (some .int) 2 := ⟨⟨co_L_low, it_RL, by decide +kernel, by decide +kernel⟩, sm_L_low⟩
theorem gc_X4_set : gCV RX4 yX4_set cX4_set 3 (some .int) 2 := ⟨⟨co_X4_set, it_RX4, by decide +kernel, by decide +kernel⟩, im_X4_set, se_X4_set⟩
theorem gc_X1_keep : gCV RX1 yX1_keep cX1_keep 4 none 1 := ⟨⟨co_X1_keep, it_RX1, by decide +kernel, by decide +kernel⟩, im_X1_keep, se_X1_keep⟩
theorem gc_X3_changeSetting : gCV RX3 yX3_changeSetting cX3_changeSetting 4 (some .int) 2 := ⟨⟨co_X3_changeSetting, it_RX3, by decide +kernel, by decide +kernel⟩, im_X3_changeSetting, se_X3_changeSetting⟩
theorem gc_L_isSample : gCS yL_isSample cL_isSample 22 (some .boolean) 3 := ⟨⟨co_L_isSample, it_RL, by decide +kernel, by decide +kernel⟩, sm_L_isSample⟩
theorem gc_L_greater : gCS yL_greater cL_greater 2 (some .int) 2 := ⟨⟨co_L_greater, it_RL, by decide +kernel, by decide +kernel⟩, sm_L_greater⟩
theorem gc_X4_sample : gCV RX4 yX4_sample cX4_sample 3 (some .int) 2 := ⟨⟨co_X4_sample, it_RX4, by decide +kernel, by decide +kernel⟩, im_X4_sample, se_X4_sample⟩
theorem gc_X4_takeAlike : gCV RX4 yX4_takeAlike cX4_takeAlike 6 (some .int) 3 := ⟨⟨co_X4_takeAlike, it_RX4, by decide +kernel, by decide +kernel⟩, im_X4_takeAlike, se_X4_takeAlike⟩
theorem gc_X3_refusalOfSamples : gCV RX3 yX3_refusalOfSamples cX3_refusalOfSamples 4 (some .int) 3 := ⟨⟨co_X3_refusalOfSamples, it_RX3, by decide +kernel, by decide +kernel⟩, im_X3_refusalOfSamples, se_X3_refusalOfSamples⟩
theorem gc_X3_telling : gCV RX3 yX3_telling cX3_telling 1 (some .int) 0 := ⟨⟨co_X3_telling, it_RX3, by decide +kernel, by decide +kernel⟩, im_X3_telling, se_X3_telling⟩
theorem gc_X4_press : gCV RX4 yX4_press cX4_press 3 (some .int) 1 := ⟨⟨co_X4_press, it_RX4, by decide +kernel, by decide +kernel⟩, im_X4_press, se_X4_press⟩
theorem gc_X3_refusalOfPress : gCV RX3 yX3_refusalOfPress cX3_refusalOfPress 2 (some .int) 1 := ⟨⟨co_X3_refusalOfPress, it_RX3, by decide +kernel, by decide +kernel⟩, im_X3_refusalOfPress, se_X3_refusalOfPress⟩
theorem gc_X3_isButton : gCS yX3_isButton cX3_isButton 1 (some .boolean) 1 := ⟨⟨co_X3_isButton, it_RX3, by decide +kernel, by decide +kernel⟩, sm_X3_isButton⟩
theorem gc_X3_isDown : gCV RX3 yX3_isDown cX3_isDown 2 (some .boolean) 1 := ⟨⟨co_X3_isDown, it_RX3, by decide +kernel, by decide +kernel⟩, im_X3_isDown, se_X3_isDown⟩
theorem gc_X3_pushDown : gCV RX3 yX3_pushDown cX3_pushDown 2 (some .int) 1 := ⟨⟨co_X3_pushDown, it_RX3, by decide +kernel, by decide +kernel⟩, im_X3_pushDown, se_X3_pushDown⟩
theorem gc_X4_letUp : gCV RX4 yX4_letUp cX4_letUp 3 (some .int) 1 := ⟨⟨co_X4_letUp, it_RX4, by decide +kernel, by decide +kernel⟩, im_X4_letUp, se_X4_letUp⟩
theorem gc_X3_refusalOfLetUp : gCV RX3 yX3_refusalOfLetUp cX3_refusalOfLetUp 2 (some .int) 1 := ⟨⟨co_X3_refusalOfLetUp, it_RX3, by decide +kernel, by decide +kernel⟩, im_X3_refusalOfLetUp, se_X3_refusalOfLetUp⟩
theorem gc_X3_release : gCV RX3 yX3_release cX3_release 2 (some .int) 1 := ⟨⟨co_X3_release, it_RX3, by decide +kernel, by decide +kernel⟩, im_X3_release, se_X3_release⟩
theorem gc_X4_reset : gCV RX4 yX4_reset cX4_reset 1 (some .int) 0 := ⟨⟨co_X4_reset, it_RX4, by decide +kernel, by decide +kernel⟩, im_X4_reset, se_X4_reset⟩
theorem gc_X3_toMiddle : gCV RX3 yX3_toMiddle cX3_toMiddle 2 (some .int) 0 := ⟨⟨co_X3_toMiddle, it_RX3, by decide +kernel, by decide +kernel⟩, im_X3_toMiddle, se_X3_toMiddle⟩
theorem gc_X4_hold : gCV RX4 yX4_hold cX4_hold 4 (some .int) 3 := ⟨⟨co_X4_hold, it_RX4, by decide +kernel, by decide +kernel⟩, im_X4_hold, se_X4_hold⟩
theorem gc_L_isIn : gCS yL_isIn cL_isIn 13 (some .boolean) 3 := ⟨⟨co_L_isIn, it_RL, by decide +kernel, by decide +kernel⟩, sm_L_isIn⟩
theorem gc_X4_driftsIn : gCV RX4 yX4_driftsIn cX4_driftsIn 4 (some .int) 2 := ⟨⟨co_X4_driftsIn, it_RX4, by decide +kernel, by decide +kernel⟩, im_X4_driftsIn, se_X4_driftsIn⟩
theorem gc_X4_save : gCV RX4 yX4_save cX4_save 3 (some .int) 1 := ⟨⟨co_X4_save, it_RX4, by decide +kernel, by decide +kernel⟩, im_X4_save, se_X4_save⟩
theorem gc_X4_restore : gCV RX4 yX4_restore cX4_restore 3 (some .int) 1 := ⟨⟨co_X4_restore, it_RX4, by decide +kernel, by decide +kernel⟩, im_X4_restore, se_X4_restore⟩
theorem gc_L_isEdge : gCS yL_isEdge cL_isEdge 10 (some .boolean) 3 := ⟨⟨co_L_isEdge, it_RL, by decide +kernel, by decide +kernel⟩, sm_L_isEdge⟩
theorem gc_X4_edge : gCV RX4 yX4_edge cX4_edge 7 (some .int) 2 := ⟨⟨co_X4_edge, it_RX4, by decide +kernel, by decide +kernel⟩, im_X4_edge, se_X4_edge⟩
end
section
/-! ints as they are -/
theorem upd_lo {r : Nat → Int32} {i : Nat} {v : Int32} {k : Nat} (h : k ≠ i) : upd r i v k = r k := if_neg h
theorem ix_le {e : Int32} {N : Nat} (h0 : ¬ e < 0) (h : ¬ nI N < e) (hN : N < 2 ^ 31 := by decide) : e.toNatClampNeg < N + 1 := by
  obtain ⟨j, hj, rfl⟩ := nI_of h0
  rw [nI_clamp hj]
  have := mt (nI_ltI hN hj).mpr h
  omega
theorem many_ok {v : Int32} (h0 : ¬ v < 1) (h : ¬ 200 < v) : v.toNatClampNeg ≤ 200 ∧ ¬ v < 0 := by
  have h0' : ¬ v < 0 := fun q => h0 (ti_lt.mpr (by
    have := ti_lt.mp q
    have e1 : (0 : Int32).toInt = 0 := rfl
    have e2 : (1 : Int32).toInt = 1 := rfl
    omega))
  exact ⟨Nat.lt_succ_iff.mp (ix_le (N := 200) h0' h), h0'⟩
theorem i_k {a k : Int32} {n : Int} (hk : k.toInt = n) (h : -100000 ≤ a.toInt ∧ a.toInt ≤ 100000) (hn : -100000 ≤ n ∧ n ≤ 100000 := by decide) : (a + k).toInt = a.toInt + n := by
  rw [ti_add (by omega) (by omega), hk]
theorem i_kk {a b : Int32} (h : -100000 ≤ a.toInt ∧ a.toInt ≤ 100000) (hn : -100000 ≤ b.toInt ∧ b.toInt ≤ 100000) : (a + b).toInt = a.toInt + b.toInt := ti_add (by omega) (by omega)
theorem i_1 {a : Int32} (h : -100000 ≤ a.toInt ∧ a.toInt ≤ 100000) : (a + 1).toInt = a.toInt + 1 := i_k rfl h
theorem i_nn {v : Int32} (h : 0 ≤ v.toInt) : ¬ v < 0 := fun q => by
  have := ti_lt.mp q
  have e1 : (0 : Int32).toInt = 0 := rfl
  omega
theorem i_nn' {v : Int32} (h : ¬ v < 0) : 0 ≤ v.toInt := by
  have := mt ti_lt.mpr h
  have e1 : (0 : Int32).toInt = 0 := rfl
  omega
theorem nI_m1 {k : Nat} (h : 1 ≤ k) : nI k - 1 = nI (k - 1) := by
  obtain ⟨q, rfl⟩ : ∃ q, k = q + 1 := ⟨k - 1, by omega⟩
  rw [Nat.add_sub_cancel, nI_pred]
theorem div_toInt {a b : Int32} (ha : -2147483648 < a.toInt) : (a / b).toInt = a.toInt.tdiv b.toInt := by
  rw [Int32.toInt_div]
  have hr := ti_rng a
  have h1 : (a.toInt.tdiv b.toInt).natAbs ≤ a.toInt.natAbs := Int.natAbs_tdiv_le_natAbs _ _
  exact ti_bmod (by omega) (by omega)
theorem upd_eq {f : Nat → Int32} {i : Nat} {v : Int32} : upd f i v i = v := if_pos rfl
theorem z0 : (0 : Int32).toInt = 0 := rfl
theorem z1 : (1 : Int32).toInt = 1 := rfl
theorem z2 : (2 : Int32).toInt = 2 := rfl
theorem z4 : (4 : Int32).toInt = 4 := rfl
theorem z8 : (8 : Int32).toInt = 8 := rfl
theorem z16 : (16 : Int32).toInt = 16 := rfl
theorem z100 : (100 : Int32).toInt = 100 := rfl
theorem z1000 : (1000 : Int32).toInt = 1000 := rfl
theorem lt_iff {a b : Int32} : a < b ↔ a.toInt < b.toInt := ti_lt
theorem nlt_iff {a b : Int32} : ¬ a < b ↔ b.toInt ≤ a.toInt := by
  rw [ti_lt]
  omega
/-- where the rest lies, as a position -/
theorem div16 {a : Int32} (h : 0 ≤ a.toInt ∧ a.toInt ≤ 4080) : 0 ≤ (a / 16).toInt ∧ (a / 16).toInt ≤ 255 := by
  rw [div_toInt (by omega), z16, Int.tdiv_eq_ediv_of_nonneg h.1]
  omega
theorem off_b {x a : Int32} (hx : 0 ≤ x.toInt ∧ x.toInt ≤ 255) (h : 0 ≤ a.toInt ∧ a.toInt ≤ 4080) : -255 ≤ (x - a / 16).toInt ∧ (x - a / 16).toInt ≤ 255 := by
  have := div16 h
  rw [ti_sub (by omega) (by omega)]
  omega
/-- the rest comes nearer and stays in its bounds -/
theorem learn_b {a t s : Int32} (ha : 0 ≤ a.toInt ∧ a.toInt ≤ 4080) (ht : 0 ≤ t.toInt ∧ t.toInt ≤ 4080) (hs : 1 ≤ s.toInt ∧ s.toInt ≤ 64) : 0 ≤ (a + (t - a) / s).toInt ∧ (a + (t - a) / s).toInt ≤ 4080 := by
  have e1 : (t - a).toInt = t.toInt - a.toInt := ti_sub (by omega) (by omega)
  have e2 : ((t - a) / s).toInt = (t.toInt - a.toInt).tdiv s.toInt := by rw [div_toInt (by omega), e1]
  rcases Int.le_total a.toInt t.toInt with h | h
  · have h1 : 0 ≤ (t.toInt - a.toInt).tdiv s.toInt := Int.tdiv_nonneg (by omega) (by omega)
    have h2 : (t.toInt - a.toInt).tdiv s.toInt ≤ t.toInt - a.toInt := Int.tdiv_le_self _ (by omega)
    rw [ti_add (by omega) (by omega)]
    omega
  · have h0 : (t.toInt - a.toInt).tdiv s.toInt = -((a.toInt - t.toInt).tdiv s.toInt) := by
      rw [← Int.neg_tdiv]
      congr 1
      omega
    have h1 : 0 ≤ (a.toInt - t.toInt).tdiv s.toInt := Int.tdiv_nonneg (by omega) (by omega)
    have h2 : (a.toInt - t.toInt).tdiv s.toInt ≤ a.toInt - t.toInt := Int.tdiv_le_self _ (by omega)
    rw [ti_add (by omega) (by omega)]
    omega
theorem mul16 {x : Int32} (h : 0 ≤ x.toInt ∧ x.toInt ≤ 255) : (16 * x).toInt = 16 * x.toInt := by
  rw [ti_mul (by rw [z16]; omega) (by rw [z16]; omega), z16]
end
section
abbrev R_J6_compare_7cf53 : Room := { frames := 0, cells := 0, slots := 0, locals := 0 }
def r_J6_compare_7cf53 (x : Int32) (y : Int32) : Int32 := if x < y then (-1) else (if x = y then 0 else 1)
set_option maxHeartbeats 1000000 in
set_option maxRecDepth 100000 in
theorem s_J6_compare_7cf53_0 (d : gD) (x : Int32) (y : Int32)   {X : gX} (E : gE d X RJ6 cJ6_compare_7cf53 2 R_J6_compare_7cf53) (RET : ∀ (pc_ : Nat) (lv_ : List (Nat × Value)) (v_ : Int32) (u_ : va_W), decode cJ6_compare_7cf53 pc_ = .ok (.ireturn, 1) → narrow .int (.int v_) = .int v_ → v_ = r_J6_compare_7cf53 x y → u_ = [] → G d X u_ R_J6_compare_7cf53.cells R_J6_compare_7cf53.slots pc_ lv_ [.int v_]) : G d X ([]) 0 0 0 [(0, .int x), (1, .int y)] [] := by
  refine g_iload_n E 0 dJ6_compare_7cf53_0 rfl rfl ?_
  refine g_iload_n E 1 dJ6_compare_7cf53_1 rfl rfl ?_
  refine g_icmpge E 9 dJ6_compare_7cf53_2 (by decide) (fun c_2 => ?_) (fun c_2 => ?_)
  · skip
    refine g_iload_n E 0 dJ6_compare_7cf53_9 rfl rfl ?_
    refine g_iload_n E 1 dJ6_compare_7cf53_10 rfl rfl ?_
    refine g_icmpne E 18 dJ6_compare_7cf53_11 (by decide) (fun c_11 => ?_) (fun c_11 => ?_)
    · skip
      refine g_iconst E 1 dJ6_compare_7cf53_18 (by decide) ?_
      exact RET 19 _ 1 _ dJ6_compare_7cf53_19 rfl (by rw [r_J6_compare_7cf53, if_neg c_2, if_neg c_11]) rfl
    · skip
      refine g_iconst E 0 dJ6_compare_7cf53_14 (by decide) ?_
      refine g_goto E 19 dJ6_compare_7cf53_15 (by decide) ?_
      exact RET 19 _ 0 _ dJ6_compare_7cf53_19 rfl (by rw [r_J6_compare_7cf53, if_neg c_2, if_pos c_11]) rfl
  · skip
    refine g_iconst E (-1) dJ6_compare_7cf53_5 (by decide) ?_
    refine g_goto E 19 dJ6_compare_7cf53_6 (by decide) ?_
    exact RET 19 _ (-1) _ dJ6_compare_7cf53_19 rfl (by rw [r_J6_compare_7cf53, if_pos c_2]) rfl
set_option maxHeartbeats 1000000 in
set_option maxRecDepth 100000 in
theorem t_J6_compare_7cf53 (d : gD) (x : Int32) (y : Int32)  : gMi d yJ6_compare_7cf53 cJ6_compare_7cf53 2 (some .int) R_J6_compare_7cf53 [.int x, .int y] ([]) (fun r_ u_ => r_ = r_J6_compare_7cf53 x y ∧ u_ = []) :=
  g_met_i RJ6 rfl (by decide +kernel) (Nat.le_of_ble_eq_true rfl) [(0, .int x), (1, .int y)] rfl (fun X E RET => s_J6_compare_7cf53_0 d x y  E (fun pc_ lv_ v_ u_ h1_ h2_ h3_ h4_ => RET pc_ lv_ v_ u_ h1_ h2_ ⟨h3_, h4_⟩))
abbrev R_J9_floorMod_7cf53 : Room := { frames := 0, cells := 0, slots := 0, locals := 0 }
def r_J9_floorMod_7cf53 (x : Int32) (y : Int32) : Int32 := if (x ^^^ y) < 0 then (if (x - x / y * y) = 0 then (x - x / y * y) else ((x - x / y * y) + y)) else (x - x / y * y)
set_option maxHeartbeats 1000000 in
set_option maxRecDepth 100000 in
theorem s_J9_floorMod_7cf53_0 (d : gD) (x : Int32) (y : Int32) (hy : ¬ y = 0)  {X : gX} (E : gE d X RJ9 cJ9_floorMod_7cf53 3 R_J9_floorMod_7cf53) (RET : ∀ (pc_ : Nat) (lv_ : List (Nat × Value)) (v_ : Int32) (u_ : va_W), decode cJ9_floorMod_7cf53 pc_ = .ok (.ireturn, 1) → narrow .int (.int v_) = .int v_ → v_ = r_J9_floorMod_7cf53 x y → u_ = [] → G d X u_ R_J9_floorMod_7cf53.cells R_J9_floorMod_7cf53.slots pc_ lv_ [.int v_]) : G d X ([]) 0 0 0 [(0, .int x), (1, .int y)] [] := by
  refine g_iload_n E 0 dJ9_floorMod_7cf53_0 rfl rfl ?_
  refine g_iload_n E 1 dJ9_floorMod_7cf53_1 rfl rfl ?_
  refine g_irem E dJ9_floorMod_7cf53_2 hy ?_
  refine g_istore_n E (lv' := [(2, .int (x - x / y * y)), (0, .int x), (1, .int y)]) dJ9_floorMod_7cf53_3 rfl (by decide) rfl ?_
  refine g_iload_n E 1 dJ9_floorMod_7cf53_4 rfl rfl ?_
  refine g_iload_n E 2 dJ9_floorMod_7cf53_5 rfl rfl ?_
  refine g_ixor E dJ9_floorMod_7cf53_6 ?_
  refine g_ifge E 18 dJ9_floorMod_7cf53_7 (by decide) (fun c_7 => ?_) (fun c_7 => ?_)
  · skip
    refine g_iload_n E 0 dJ9_floorMod_7cf53_18 rfl rfl ?_
    exact RET 19 _ (x - x / y * y) _ dJ9_floorMod_7cf53_19 rfl (by rw [r_J9_floorMod_7cf53, if_neg c_7]) rfl
  · skip
    refine g_iload_n E 0 dJ9_floorMod_7cf53_10 rfl rfl ?_
    refine g_ifeq E 18 dJ9_floorMod_7cf53_11 (by decide) (fun c_11 => ?_) (fun c_11 => ?_)
    · skip
      refine g_iload_n E 0 dJ9_floorMod_7cf53_18 rfl rfl ?_
      exact RET 19 _ (x - x / y * y) _ dJ9_floorMod_7cf53_19 rfl (by rw [r_J9_floorMod_7cf53, if_pos c_7, if_pos c_11]) rfl
    · skip
      refine g_iload_n E 0 dJ9_floorMod_7cf53_14 rfl rfl ?_
      refine g_iload_n E 2 dJ9_floorMod_7cf53_15 rfl rfl ?_
      refine g_iadd E dJ9_floorMod_7cf53_16 ?_
      exact RET 17 _ ((x - x / y * y) + y) _ dJ9_floorMod_7cf53_17 rfl (by rw [r_J9_floorMod_7cf53, if_pos c_7, if_neg c_11]) rfl
set_option maxHeartbeats 1000000 in
set_option maxRecDepth 100000 in
theorem t_J9_floorMod_7cf53 (d : gD) (x : Int32) (y : Int32) (hy : ¬ y = 0) : gMi d yJ9_floorMod_7cf53 cJ9_floorMod_7cf53 3 (some .int) R_J9_floorMod_7cf53 [.int x, .int y] ([]) (fun r_ u_ => r_ = r_J9_floorMod_7cf53 x y ∧ u_ = []) :=
  g_met_i RJ9 rfl (by decide +kernel) (Nat.le_of_ble_eq_true rfl) [(0, .int x), (1, .int y)] rfl (fun X E RET => s_J9_floorMod_7cf53_0 d x y hy E (fun pc_ lv_ v_ u_ h1_ h2_ h3_ h4_ => RET pc_ lv_ v_ u_ h1_ h2_ ⟨h3_, h4_⟩))
abbrev R_X4_isSample : Room := { frames := 0, cells := 0, slots := 0, locals := 0 }
def r_X4_isSample (x : Int32) (y : Int32) : Int32 := if x < 0 then 0 else (if 255 < x then 0 else (if y < 0 then 0 else (if 255 < y then 0 else 1)))
set_option maxHeartbeats 1000000 in
set_option maxRecDepth 100000 in
theorem s_X4_isSample_0 (d : gD) (x : Int32) (y : Int32)   {X : gX} (E : gE d X RX4 cX4_isSample 2 R_X4_isSample) (RET : ∀ (pc_ : Nat) (lv_ : List (Nat × Value)) (v_ : Int32) (u_ : va_W), decode cX4_isSample pc_ = .ok (.ireturn, 1) → narrow .boolean (.int v_) = .int v_ → v_ = r_X4_isSample x y → u_ = [] → G d X u_ R_X4_isSample.cells R_X4_isSample.slots pc_ lv_ [.int v_]) : G d X ([]) 0 0 0 [(0, .int x), (1, .int y)] [] := by
  refine g_iload_n E 0 dX4_isSample_0 rfl rfl ?_
  refine g_iflt E 26 dX4_isSample_1 (by decide) (fun c_1 => ?_) (fun c_1 => ?_)
  · skip
    refine g_iconst E 0 dX4_isSample_26 (by decide) ?_
    exact RET 27 _ 0 _ dX4_isSample_27 rfl (by rw [r_X4_isSample, if_pos c_1]) rfl
  · skip
    refine g_iload_n E 0 dX4_isSample_4 rfl rfl ?_
    refine g_sipush E 255 dX4_isSample_5 (by decide) ?_
    refine g_icmpgt E 26 dX4_isSample_8 (by decide) (fun c_8 => ?_) (fun c_8 => ?_)
    · skip
      refine g_iconst E 0 dX4_isSample_26 (by decide) ?_
      exact RET 27 _ 0 _ dX4_isSample_27 rfl (by rw [r_X4_isSample, if_neg c_1, if_pos c_8]) rfl
    · skip
      refine g_iload_n E 1 dX4_isSample_11 rfl rfl ?_
      refine g_iflt E 26 dX4_isSample_12 (by decide) (fun c_12 => ?_) (fun c_12 => ?_)
      · skip
        refine g_iconst E 0 dX4_isSample_26 (by decide) ?_
        exact RET 27 _ 0 _ dX4_isSample_27 rfl (by rw [r_X4_isSample, if_neg c_1, if_neg c_8, if_pos c_12]) rfl
      · skip
        refine g_iload_n E 1 dX4_isSample_15 rfl rfl ?_
        refine g_sipush E 255 dX4_isSample_16 (by decide) ?_
        refine g_icmpgt E 26 dX4_isSample_19 (by decide) (fun c_19 => ?_) (fun c_19 => ?_)
        · skip
          refine g_iconst E 0 dX4_isSample_26 (by decide) ?_
          exact RET 27 _ 0 _ dX4_isSample_27 rfl (by rw [r_X4_isSample, if_neg c_1, if_neg c_8, if_neg c_12, if_pos c_19]) rfl
        · skip
          refine g_iconst E 1 dX4_isSample_22 (by decide) ?_
          refine g_goto E 27 dX4_isSample_23 (by decide) ?_
          exact RET 27 _ 1 _ dX4_isSample_27 rfl (by rw [r_X4_isSample, if_neg c_1, if_neg c_8, if_neg c_12, if_neg c_19]) rfl
set_option maxHeartbeats 1000000 in
set_option maxRecDepth 100000 in
theorem t_X4_isSample (d : gD) (x : Int32) (y : Int32)  : gMi d yX4_isSample cX4_isSample 2 (some .boolean) R_X4_isSample [.int x, .int y] ([]) (fun r_ u_ => r_ = r_X4_isSample x y ∧ u_ = []) :=
  g_met_i RX4 rfl (by decide +kernel) (Nat.le_of_ble_eq_true rfl) [(0, .int x), (1, .int y)] rfl (fun X E RET => s_X4_isSample_0 d x y  E (fun pc_ lv_ v_ u_ h1_ h2_ h3_ h4_ => RET pc_ lv_ v_ u_ h1_ h2_ ⟨h3_, h4_⟩))
abbrev R_X4_packed : Room := { frames := 0, cells := 0, slots := 0, locals := 0 }
def r_X4_packed (x : Int32) (y : Int32) : Int32 := (((1000 * (x + 100)) + y) + 100)
set_option maxHeartbeats 1000000 in
set_option maxRecDepth 100000 in
theorem s_X4_packed_0 (d : gD) (x : Int32) (y : Int32)   {X : gX} (E : gE d X RX4 cX4_packed 2 R_X4_packed) (RET : ∀ (pc_ : Nat) (lv_ : List (Nat × Value)) (v_ : Int32) (u_ : va_W), decode cX4_packed pc_ = .ok (.ireturn, 1) → narrow .int (.int v_) = .int v_ → v_ = r_X4_packed x y → u_ = [] → G d X u_ R_X4_packed.cells R_X4_packed.slots pc_ lv_ [.int v_]) : G d X ([]) 0 0 0 [(0, .int x), (1, .int y)] [] := by
  refine g_sipush E 1000 dX4_packed_0 (by decide) ?_
  refine g_iload_n E 0 dX4_packed_3 rfl rfl ?_
  refine g_bipush E 100 dX4_packed_4 (by decide) ?_
  refine g_iadd E dX4_packed_6 ?_
  refine g_imul E dX4_packed_7 ?_
  refine g_iload_n E 1 dX4_packed_8 rfl rfl ?_
  refine g_iadd E dX4_packed_9 ?_
  refine g_bipush E 100 dX4_packed_10 (by decide) ?_
  refine g_iadd E dX4_packed_12 ?_
  exact RET 13 _ (((1000 * (x + 100)) + y) + 100) _ dX4_packed_13 rfl (by rw [r_X4_packed]) rfl
set_option maxHeartbeats 1000000 in
set_option maxRecDepth 100000 in
theorem t_X4_packed (d : gD) (x : Int32) (y : Int32)  : gMi d yX4_packed cX4_packed 2 (some .int) R_X4_packed [.int x, .int y] ([]) (fun r_ u_ => r_ = r_X4_packed x y ∧ u_ = []) :=
  g_met_i RX4 rfl (by decide +kernel) (Nat.le_of_ble_eq_true rfl) [(0, .int x), (1, .int y)] rfl (fun X E RET => s_X4_packed_0 d x y  E (fun pc_ lv_ v_ u_ h1_ h2_ h3_ h4_ => RET pc_ lv_ v_ u_ h1_ h2_ ⟨h3_, h4_⟩))
abbrev R_X4_quotient : Room := { frames := 0, cells := 0, slots := 0, locals := 0 }
def r_X4_quotient (x : Int32) (y : Int32) : Int32 := if y = 0 then 0 else (x / y)
set_option maxHeartbeats 1000000 in
set_option maxRecDepth 100000 in
theorem s_X4_quotient_0 (d : gD) (x : Int32) (y : Int32)   {X : gX} (E : gE d X RX4 cX4_quotient 2 R_X4_quotient) (RET : ∀ (pc_ : Nat) (lv_ : List (Nat × Value)) (v_ : Int32) (u_ : va_W), decode cX4_quotient pc_ = .ok (.ireturn, 1) → narrow .int (.int v_) = .int v_ → v_ = r_X4_quotient x y → u_ = [] → G d X u_ R_X4_quotient.cells R_X4_quotient.slots pc_ lv_ [.int v_]) : G d X ([]) 0 0 0 [(0, .int x), (1, .int y)] [] := by
  refine g_iload_n E 1 dX4_quotient_0 rfl rfl ?_
  refine g_ifne E 8 dX4_quotient_1 (by decide) (fun c_1 => ?_) (fun c_1 => ?_)
  · skip
    refine g_iload_n E 0 dX4_quotient_8 rfl rfl ?_
    refine g_iload_n E 1 dX4_quotient_9 rfl rfl ?_
    refine g_idiv E dX4_quotient_10 c_1 ?_
    exact RET 11 _ (x / y) _ dX4_quotient_11 rfl (by rw [r_X4_quotient, if_neg c_1]) rfl
  · skip
    refine g_iconst E 0 dX4_quotient_4 (by decide) ?_
    refine g_goto E 11 dX4_quotient_5 (by decide) ?_
    exact RET 11 _ 0 _ dX4_quotient_11 rfl (by rw [r_X4_quotient, if_pos c_1]) rfl
set_option maxHeartbeats 1000000 in
set_option maxRecDepth 100000 in
theorem t_X4_quotient (d : gD) (x : Int32) (y : Int32)  : gMi d yX4_quotient cX4_quotient 2 (some .int) R_X4_quotient [.int x, .int y] ([]) (fun r_ u_ => r_ = r_X4_quotient x y ∧ u_ = []) :=
  g_met_i RX4 rfl (by decide +kernel) (Nat.le_of_ble_eq_true rfl) [(0, .int x), (1, .int y)] rfl (fun X E RET => s_X4_quotient_0 d x y  E (fun pc_ lv_ v_ u_ h1_ h2_ h3_ h4_ => RET pc_ lv_ v_ u_ h1_ h2_ ⟨h3_, h4_⟩))
end
section
abbrev R_X0_note : Room := { frames := 1, cells := 0, slots := 0, locals := 15 }
def j_X0_note_59_g (x : Int32) (y : Int32) (D : DD) : Nat → Int32 := if (((3 * (x + 1)) + y) + 1) < 0 then D.1 else (if (((3 * (x + 1)) + y) + 1) < 9 then (if (D.2.2.1 ((((3 * (x + 1)) + y) + 1).toNatClampNeg)) = 0 then (if (D.1 0) < 9 then (upd D.1 0 ((D.1 0) + 1)) else D.1) else D.1) else D.1)
def j_X0_note_59_br (x : Int32) (y : Int32) (D : DD) : Nat → Int32 := if (((3 * (x + 1)) + y) + 1) < 0 then D.2.1 else (if (((3 * (x + 1)) + y) + 1) < 9 then (if (D.2.2.1 ((((3 * (x + 1)) + y) + 1).toNatClampNeg)) = 0 then (if (D.1 0) < 9 then (upd D.2.1 ((D.1 0).toNatClampNeg) (((3 * (x + 1)) + y) + 1)) else D.2.1) else D.2.1) else D.2.1)
def j_X0_note_78_s0 (x : Int32) (y : Int32) (D : DD) : Int32 := if (((3 * (x + 1)) + y) + 1) = ((j_X0_note_59_g x y D) 1) then (((j_X0_note_59_g x y D) 2) + 1) else 1
def c_X0_note_at78 (x : Int32) (y : Int32) (D : DD) : DD := (upd (upd (j_X0_note_59_g x y D) 2 (j_X0_note_78_s0 x y D)) 1 (((3 * (x + 1)) + y) + 1), (j_X0_note_59_br x y D), upd D.2.2.1 ((((3 * (x + 1)) + y) + 1).toNatClampNeg) ((D.2.2.1 ((((3 * (x + 1)) + y) + 1).toNatClampNeg)) + 1), upd D.2.2.2 ((((3 * (x + 1)) + y) + 1).toNatClampNeg) (imax (D.2.2.2 ((((3 * (x + 1)) + y) + 1).toNatClampNeg)) (j_X0_note_78_s0 x y D)))
def c_X0_note_at59 (x : Int32) (y : Int32) (D : DD) : DD := c_X0_note_at78 x y D
def c_X0_note (x : Int32) (y : Int32) (D : DD) : DD := if (((3 * (x + 1)) + y) + 1) < 0 then D else (if (((3 * (x + 1)) + y) + 1) < 9 then (c_X0_note_at59 x y D) else D)
set_option maxHeartbeats 1000000 in
set_option maxRecDepth 100000 in
theorem s_X0_note_78 (d : gD) (a : Nat → Nat) (x : Int32) (y : Int32) (D : DD) (hu : ¬ D.1 0 < 0) (c_11 : ¬ (((3 * (x + 1)) + y) + 1) < 0) (c_17 : (((3 * (x + 1)) + y) + 1) < 9) {X : gX} (E : gE d X RX0 cX0_note 4 R_X0_note) (RET : ∀ (pc_ : Nat) (lv_ : List (Nat × Value)) (u_ : va_W), decode cX0_note pc_ = .ok (.return_, 1) → u_ = DK d a (c_X0_note_at78 x y D) → G d X u_ R_X0_note.cells R_X0_note.slots pc_ lv_ []) : G d X (DK d a ((j_X0_note_59_g x y D), (j_X0_note_59_br x y D), D.2.2)) 0 0 78 [(0, .ref (a 2)), (1, .int x), (2, .int y), (3, .int (((3 * (x + 1)) + y) + 1))] [.int (j_X0_note_78_s0 x y D), .ref (a 2)] := by
  obtain ⟨J1_, hJ1_⟩ : ∃ z, j_X0_note_59_g x y D = z := ⟨_, rfl⟩
  rw [hJ1_]
  obtain ⟨J2_, hJ2_⟩ : ∃ z, j_X0_note_59_br x y D = z := ⟨_, rfl⟩
  rw [hJ2_]
  obtain ⟨J3_, hJ3_⟩ : ∃ z, j_X0_note_78_s0 x y D = z := ⟨_, rfl⟩
  rw [hJ3_]
  refine g_put E (ci := 0) inlX0 0 rfl rfl 5 (by decide) tyX0 tyX0_ok nmX0 fl_X0_34 rfl rfl rfl rfl (ok_lt rfl) (ws' := DK d a (upd J1_ 2 J3_, J2_, D.2.2)) rfl dX0_note_78 ?_
  refine g_aload_n E 0 dX0_note_81 rfl rfl ?_
  refine g_iload_n E 3 dX0_note_82 rfl rfl ?_
  refine g_put E (ci := 0) inlX0 0 rfl rfl 4 (by decide) tyX0 tyX0_ok nmX0 fl_X0_21 rfl rfl rfl rfl (ok_lt rfl) (ws' := DK d a (upd (upd J1_ 2 J3_) 1 (((3 * (x + 1)) + y) + 1), J2_, D.2.2)) rfl dX0_note_83 ?_
  refine g_aload_n E 0 dX0_note_86 rfl rfl ?_
  refine g_get E (ci := 0) inlX0 0 rfl rfl 1 (by decide) fl_X0_15 rfl (.ref (a 4)) rfl dX0_note_87 ?_
  refine g_iload_n E 3 dX0_note_90 rfl rfl ?_
  refine g_dup2 E dX0_note_91 rfl rfl ?_
  refine g_iald E 2 rfl rfl ((((3 * (x + 1)) + y) + 1).toNatClampNeg) (ix_eq c_11) (ix_lt (N := 9) c_11 c_17) (by decide) dX0_note_92 ?_
  refine g_iconst E 1 dX0_note_93 (by decide) ?_
  refine g_iadd E dX0_note_94 ?_
  refine g_iast E 2 rfl rfl ((((3 * (x + 1)) + y) + 1).toNatClampNeg) (ix_eq c_11) (ix_lt (N := 9) c_11 c_17) (by decide) (ws' := DK d a (upd (upd J1_ 2 J3_) 1 (((3 * (x + 1)) + y) + 1), J2_, upd D.2.2.1 ((((3 * (x + 1)) + y) + 1).toNatClampNeg) ((D.2.2.1 ((((3 * (x + 1)) + y) + 1).toNatClampNeg)) + 1), D.2.2.2)) rfl dX0_note_95 ?_
  refine g_aload_n E 0 dX0_note_96 rfl rfl ?_
  refine g_get E (ci := 0) inlX0 0 rfl rfl 2 (by decide) fl_X0_18 rfl (.ref (a 5)) rfl dX0_note_97 ?_
  refine g_iload_n E 3 dX0_note_100 rfl rfl ?_
  refine g_aload_n E 0 dX0_note_101 rfl rfl ?_
  refine g_get E (ci := 0) inlX0 0 rfl rfl 2 (by decide) fl_X0_18 rfl (.ref (a 5)) rfl dX0_note_102 ?_
  refine g_iload_n E 3 dX0_note_105 rfl rfl ?_
  refine g_iald E 3 rfl rfl ((((3 * (x + 1)) + y) + 1).toNatClampNeg) (ix_eq c_11) (ix_lt (N := 9) c_11 c_17) (by decide) dX0_note_106 ?_
  refine g_aload_n E 0 dX0_note_107 rfl rfl ?_
  refine g_get E (ci := 0) inlX0 0 rfl rfl 5 (by decide) fl_X0_34 rfl (.int J3_) rfl dX0_note_108 ?_
  refine g_max E ml_X0_37 (ok_le rfl) (ok_le rfl) (ok_le rfl) (ok_le rfl) dX0_note_111 ?_
  refine g_top (b := imax (D.2.2.2 ((((3 * (x + 1)) + y) + 1).toNatClampNeg)) J3_) rfl ?_
  refine g_iast E 3 rfl rfl ((((3 * (x + 1)) + y) + 1).toNatClampNeg) (ix_eq c_11) (ix_lt (N := 9) c_11 c_17) (by decide) (ws' := DK d a (upd (upd J1_ 2 J3_) 1 (((3 * (x + 1)) + y) + 1), J2_, upd D.2.2.1 ((((3 * (x + 1)) + y) + 1).toNatClampNeg) ((D.2.2.1 ((((3 * (x + 1)) + y) + 1).toNatClampNeg)) + 1), upd D.2.2.2 ((((3 * (x + 1)) + y) + 1).toNatClampNeg) (imax (D.2.2.2 ((((3 * (x + 1)) + y) + 1).toNatClampNeg)) J3_))) rfl dX0_note_114 ?_
  subst hJ3_
  subst hJ2_
  subst hJ1_
  exact RET 115 _ _ dX0_note_115 (by rw [c_X0_note_at78])
set_option maxHeartbeats 1000000 in
set_option maxRecDepth 100000 in
theorem s_X0_note_59 (d : gD) (a : Nat → Nat) (x : Int32) (y : Int32) (D : DD) (hu : ¬ D.1 0 < 0) (c_11 : ¬ (((3 * (x + 1)) + y) + 1) < 0) (c_17 : (((3 * (x + 1)) + y) + 1) < 9) {X : gX} (E : gE d X RX0 cX0_note 4 R_X0_note) (RET : ∀ (pc_ : Nat) (lv_ : List (Nat × Value)) (u_ : va_W), decode cX0_note pc_ = .ok (.return_, 1) → u_ = DK d a (c_X0_note_at59 x y D) → G d X u_ R_X0_note.cells R_X0_note.slots pc_ lv_ []) : G d X (DK d a ((j_X0_note_59_g x y D), (j_X0_note_59_br x y D), D.2.2)) 0 0 59 [(0, .ref (a 2)), (1, .int x), (2, .int y), (3, .int (((3 * (x + 1)) + y) + 1))] [] := by
  obtain ⟨J1_, hJ1_⟩ : ∃ z, j_X0_note_59_g x y D = z := ⟨_, rfl⟩
  rw [hJ1_]
  obtain ⟨J2_, hJ2_⟩ : ∃ z, j_X0_note_59_br x y D = z := ⟨_, rfl⟩
  rw [hJ2_]
  refine g_aload_n E 0 dX0_note_59 rfl rfl ?_
  refine g_iload_n E 3 dX0_note_60 rfl rfl ?_
  refine g_aload_n E 0 dX0_note_61 rfl rfl ?_
  refine g_get E (ci := 0) inlX0 0 rfl rfl 4 (by decide) fl_X0_21 rfl (.int (J1_ 1)) rfl dX0_note_62 ?_
  refine g_icmpne E 77 dX0_note_65 (by decide) (fun c_65 => ?_) (fun c_65 => ?_)
  · skip
    refine g_iconst E 1 dX0_note_77 (by decide) ?_
    subst hJ2_
    subst hJ1_
    have J := s_X0_note_78 d a x y D hu c_11 c_17 E (fun pc_ lv_ u_ h1_ h2_ => RET pc_ lv_ u_ h1_ (h2_.trans (by rw [c_X0_note_at59])))
    rw [j_X0_note_78_s0, if_neg c_65] at J
    exact J
  · skip
    refine g_aload_n E 0 dX0_note_68 rfl rfl ?_
    refine g_get E (ci := 0) inlX0 0 rfl rfl 5 (by decide) fl_X0_34 rfl (.int (J1_ 2)) rfl dX0_note_69 ?_
    refine g_iconst E 1 dX0_note_72 (by decide) ?_
    refine g_iadd E dX0_note_73 ?_
    refine g_goto E 78 dX0_note_74 (by decide) ?_
    subst hJ2_
    subst hJ1_
    have J := s_X0_note_78 d a x y D hu c_11 c_17 E (fun pc_ lv_ u_ h1_ h2_ => RET pc_ lv_ u_ h1_ (h2_.trans (by rw [c_X0_note_at59])))
    rw [j_X0_note_78_s0, if_pos c_65] at J
    exact J
set_option maxHeartbeats 1000000 in
set_option maxRecDepth 100000 in
theorem s_X0_note_0 (d : gD) (a : Nat → Nat) (x : Int32) (y : Int32) (D : DD) (hu : ¬ D.1 0 < 0)  {X : gX} (E : gE d X RX0 cX0_note 4 R_X0_note) (RET : ∀ (pc_ : Nat) (lv_ : List (Nat × Value)) (u_ : va_W), decode cX0_note pc_ = .ok (.return_, 1) → u_ = DK d a (c_X0_note x y D) → G d X u_ R_X0_note.cells R_X0_note.slots pc_ lv_ []) : G d X (DK d a D) 0 0 0 [(0, .ref (a 2)), (1, .int x), (2, .int y)] [] := by
  refine g_iconst E 3 dX0_note_0 (by decide) ?_
  refine g_iload_n E 1 dX0_note_1 rfl rfl ?_
  refine g_iconst E 1 dX0_note_2 (by decide) ?_
  refine g_iadd E dX0_note_3 ?_
  refine g_imul E dX0_note_4 ?_
  refine g_iload_n E 2 dX0_note_5 rfl rfl ?_
  refine g_iadd E dX0_note_6 ?_
  refine g_iconst E 1 dX0_note_7 (by decide) ?_
  refine g_iadd E dX0_note_8 ?_
  refine g_istore_n E (lv' := [(3, .int (((3 * (x + 1)) + y) + 1)), (0, .ref (a 2)), (1, .int x), (2, .int y)]) dX0_note_9 rfl (by decide) rfl ?_
  refine g_iload_n E 0 dX0_note_10 rfl rfl ?_
  refine g_iflt E 20 dX0_note_11 (by decide) (fun c_11 => ?_) (fun c_11 => ?_)
  · skip
    exact RET 20 _ _ dX0_note_20 (by rw [c_X0_note, if_pos c_11])
  · skip
    refine g_iload_n E 0 dX0_note_14 rfl rfl ?_
    refine g_bipush E 9 dX0_note_15 (by decide) ?_
    refine g_icmplt E 21 dX0_note_17 (by decide) (fun c_17 => ?_) (fun c_17 => ?_)
    · skip
      refine g_aload_n E 1 dX0_note_21 rfl rfl ?_
      refine g_get E (ci := 0) inlX0 0 rfl rfl 1 (by decide) fl_X0_15 rfl (.ref (a 4)) rfl dX0_note_22 ?_
      refine g_iload_n E 0 dX0_note_25 rfl rfl ?_
      refine g_iald E 2 rfl rfl ((((3 * (x + 1)) + y) + 1).toNatClampNeg) (ix_eq c_11) (ix_lt (N := 9) c_11 c_17) (by decide) dX0_note_26 ?_
      refine g_ifne E 59 dX0_note_27 (by decide) (fun c_27 => ?_) (fun c_27 => ?_)
      · skip
        refine g_lvs (lv' := [(0, .ref (a 2)), (1, .int x), (2, .int y), (3, .int (((3 * (x + 1)) + y) + 1))]) [1, 2, 3, 0] rfl ?_
        have J := s_X0_note_59 d a x y D hu c_11 c_17 E (fun pc_ lv_ u_ h1_ h2_ => RET pc_ lv_ u_ h1_ (h2_.trans (by rw [c_X0_note, if_neg c_11, if_pos c_17])))
        rw [j_X0_note_59_g, if_neg c_11, if_pos c_17, if_neg c_27, j_X0_note_59_br, if_neg c_11, if_pos c_17, if_neg c_27] at J
        exact J
      · skip
        refine g_aload_n E 1 dX0_note_30 rfl rfl ?_
        refine g_get E (ci := 0) inlX0 0 rfl rfl 3 (by decide) fl_X0_31 rfl (.int (D.1 0)) rfl dX0_note_31 ?_
        refine g_bipush E 9 dX0_note_34 (by decide) ?_
        refine g_icmpge E 59 dX0_note_36 (by decide) (fun c_36 => ?_) (fun c_36 => ?_)
        · skip
          refine g_lvs (lv' := [(0, .ref (a 2)), (1, .int x), (2, .int y), (3, .int (((3 * (x + 1)) + y) + 1))]) [1, 2, 3, 0] rfl ?_
          have J := s_X0_note_59 d a x y D hu c_11 c_17 E (fun pc_ lv_ u_ h1_ h2_ => RET pc_ lv_ u_ h1_ (h2_.trans (by rw [c_X0_note, if_neg c_11, if_pos c_17])))
          rw [j_X0_note_59_g, if_neg c_11, if_pos c_17, if_pos c_27, if_neg c_36, j_X0_note_59_br, if_neg c_11, if_pos c_17, if_pos c_27, if_neg c_36] at J
          exact J
        · skip
          refine g_aload_n E 1 dX0_note_39 rfl rfl ?_
          refine g_get E (ci := 0) inlX0 0 rfl rfl 0 (by decide) fl_X0_9 rfl (.ref (a 3)) rfl dX0_note_40 ?_
          refine g_aload_n E 1 dX0_note_43 rfl rfl ?_
          refine g_get E (ci := 0) inlX0 0 rfl rfl 3 (by decide) fl_X0_31 rfl (.int (D.1 0)) rfl dX0_note_44 ?_
          refine g_iload_n E 0 dX0_note_47 rfl rfl ?_
          refine g_iast E 1 rfl rfl ((D.1 0).toNatClampNeg) (ix_eq hu) (ix_lt (N := 9) hu c_36) (by decide) (ws' := DK d a (D.1, upd D.2.1 ((D.1 0).toNatClampNeg) (((3 * (x + 1)) + y) + 1), D.2.2)) rfl dX0_note_48 ?_
          refine g_aload_n E 1 dX0_note_49 rfl rfl ?_
          refine g_dup E dX0_note_50 rfl ?_
          refine g_get E (ci := 0) inlX0 0 rfl rfl 3 (by decide) fl_X0_31 rfl (.int (D.1 0)) rfl dX0_note_51 ?_
          refine g_iconst E 1 dX0_note_54 (by decide) ?_
          refine g_iadd E dX0_note_55 ?_
          refine g_put E (ci := 0) inlX0 0 rfl rfl 3 (by decide) tyX0 tyX0_ok nmX0 fl_X0_31 rfl rfl rfl rfl (ok_lt rfl) (ws' := DK d a (upd D.1 0 ((D.1 0) + 1), upd D.2.1 ((D.1 0).toNatClampNeg) (((3 * (x + 1)) + y) + 1), D.2.2)) rfl dX0_note_56 ?_
          refine g_lvs (lv' := [(0, .ref (a 2)), (1, .int x), (2, .int y), (3, .int (((3 * (x + 1)) + y) + 1))]) [1, 2, 3, 0] rfl ?_
          have J := s_X0_note_59 d a x y D hu c_11 c_17 E (fun pc_ lv_ u_ h1_ h2_ => RET pc_ lv_ u_ h1_ (h2_.trans (by rw [c_X0_note, if_neg c_11, if_pos c_17])))
          rw [j_X0_note_59_g, if_neg c_11, if_pos c_17, if_pos c_27, if_pos c_36, j_X0_note_59_br, if_neg c_11, if_pos c_17, if_pos c_27, if_pos c_36] at J
          exact J
    · skip
      exact RET 20 _ _ dX0_note_20 (by rw [c_X0_note, if_neg c_11, if_neg c_17])
set_option maxHeartbeats 1000000 in
set_option maxRecDepth 100000 in
theorem t_X0_note (d : gD) (a : Nat → Nat) (x : Int32) (y : Int32) (D : DD) (hu : ¬ D.1 0 < 0) : gMv d yX0_note cX0_note 4 R_X0_note [.ref (a 2), .int x, .int y] (DK d a D) (fun u_ => u_ = DK d a (c_X0_note x y D)) :=
  g_met_v RX0 rfl (by decide +kernel) (Nat.le_of_ble_eq_true rfl) [(0, .ref (a 2)), (1, .int x), (2, .int y)] rfl (fun X E _ RET => s_X0_note_0 d a x y D hu E (fun pc_ lv_ u_ h1_ h2_ => RET pc_ lv_ u_ h1_ h2_))
abbrev R_X0_about : Room := { frames := 0, cells := 0, slots := 0, locals := 0 }
def r_X0_about (rank : Int32) (what : Int32) (D : DD) : Int32 := if rank < 0 then (-1) else (if rank < (D.1 0) then (if rank < 9 then (if (D.2.1 ((rank).toNatClampNeg)) < 0 then (-1) else (if (D.2.1 ((rank).toNatClampNeg)) < 9 then (if what = 0 then ((D.2.1 ((rank).toNatClampNeg)) / 3) else (if what = 1 then ((D.2.1 ((rank).toNatClampNeg)) - (D.2.1 ((rank).toNatClampNeg)) / 3 * 3) else (if what = 2 then (D.2.2.1 ((D.2.1 ((rank).toNatClampNeg)).toNatClampNeg)) else (if what = 3 then (D.2.2.2 ((D.2.1 ((rank).toNatClampNeg)).toNatClampNeg)) else (-2))))) else (-1))) else (-1)) else (-1))
set_option maxHeartbeats 1000000 in
set_option maxRecDepth 100000 in
theorem s_X0_about_0 (d : gD) (a : Nat → Nat) (rank : Int32) (what : Int32) (D : DD)   {X : gX} (E : gE d X RX0 cX0_about 4 R_X0_about) (RET : ∀ (pc_ : Nat) (lv_ : List (Nat × Value)) (v_ : Int32) (u_ : va_W), decode cX0_about pc_ = .ok (.ireturn, 1) → narrow .int (.int v_) = .int v_ → v_ = r_X0_about rank what D → u_ = DK d a D → G d X u_ R_X0_about.cells R_X0_about.slots pc_ lv_ [.int v_]) : G d X (DK d a D) 0 0 0 [(0, .ref (a 2)), (1, .int rank), (2, .int what)] [] := by
  refine g_iload_n E 1 dX0_about_0 rfl rfl ?_
  refine g_iflt E 18 dX0_about_1 (by decide) (fun c_1 => ?_) (fun c_1 => ?_)
  · skip
    refine g_iconst E (-1) dX0_about_18 (by decide) ?_
    exact RET 19 _ (-1) _ dX0_about_19 rfl (by rw [r_X0_about, if_pos c_1]) rfl
  · skip
    refine g_iload_n E 1 dX0_about_4 rfl rfl ?_
    refine g_aload_n E 0 dX0_about_5 rfl rfl ?_
    refine g_get E (ci := 0) inlX0 0 rfl rfl 3 (by decide) fl_X0_31 rfl (.int (D.1 0)) rfl dX0_about_6 ?_
    refine g_icmpge E 18 dX0_about_9 (by decide) (fun c_9 => ?_) (fun c_9 => ?_)
    · skip
      refine g_iconst E (-1) dX0_about_18 (by decide) ?_
      exact RET 19 _ (-1) _ dX0_about_19 rfl (by rw [r_X0_about, if_neg c_1, if_neg c_9]) rfl
    · skip
      refine g_iload_n E 1 dX0_about_12 rfl rfl ?_
      refine g_bipush E 9 dX0_about_13 (by decide) ?_
      refine g_icmplt E 20 dX0_about_15 (by decide) (fun c_15 => ?_) (fun c_15 => ?_)
      · skip
        refine g_aload_n E 0 dX0_about_20 rfl rfl ?_
        refine g_get E (ci := 0) inlX0 0 rfl rfl 0 (by decide) fl_X0_9 rfl (.ref (a 3)) rfl dX0_about_21 ?_
        refine g_iload_n E 1 dX0_about_24 rfl rfl ?_
        refine g_iald E 1 rfl rfl ((rank).toNatClampNeg) (ix_eq c_1) (ix_lt (N := 9) c_1 c_15) (by decide) dX0_about_25 ?_
        refine g_istore_n E (lv' := [(3, .int (D.2.1 ((rank).toNatClampNeg))), (0, .ref (a 2)), (1, .int rank), (2, .int what)]) dX0_about_26 rfl (by decide) rfl ?_
        refine g_iload_n E 0 dX0_about_27 rfl rfl ?_
        refine g_iflt E 37 dX0_about_28 (by decide) (fun c_28 => ?_) (fun c_28 => ?_)
        · skip
          refine g_iconst E (-1) dX0_about_37 (by decide) ?_
          exact RET 38 _ (-1) _ dX0_about_38 rfl (by rw [r_X0_about, if_neg c_1, if_pos c_9, if_pos c_15, if_pos c_28]) rfl
        · skip
          refine g_iload_n E 0 dX0_about_31 rfl rfl ?_
          refine g_bipush E 9 dX0_about_32 (by decide) ?_
          refine g_icmplt E 39 dX0_about_34 (by decide) (fun c_34 => ?_) (fun c_34 => ?_)
          · skip
            refine g_iload_n E 3 dX0_about_39 rfl rfl ?_
            by_cases w_40_0 : what = 0
            · skip
              refine g_tableIn E 72 dX0_about_40 (by rw [w_40_0]; decide) (by rw [w_40_0]; decide) (by rw [w_40_0]; rfl) (by decide) ?_
              refine g_iload_n E 0 dX0_about_72 rfl rfl ?_
              refine g_iconst E 3 dX0_about_73 (by decide) ?_
              refine g_idiv E dX0_about_74 (by decide) ?_
              exact RET 75 _ ((D.2.1 ((rank).toNatClampNeg)) / 3) _ dX0_about_75 rfl (by rw [r_X0_about, if_neg c_1, if_pos c_9, if_pos c_15, if_neg c_28, if_pos c_34, if_pos w_40_0]) rfl
            · skip
              by_cases w_40_1 : what = 1
              · skip
                refine g_tableIn E 76 dX0_about_40 (by rw [w_40_1]; decide) (by rw [w_40_1]; decide) (by rw [w_40_1]; rfl) (by decide) ?_
                refine g_iload_n E 0 dX0_about_76 rfl rfl ?_
                refine g_iconst E 3 dX0_about_77 (by decide) ?_
                refine g_irem E dX0_about_78 (by decide) ?_
                exact RET 79 _ ((D.2.1 ((rank).toNatClampNeg)) - (D.2.1 ((rank).toNatClampNeg)) / 3 * 3) _ dX0_about_79 rfl (by rw [r_X0_about, if_neg c_1, if_pos c_9, if_pos c_15, if_neg c_28, if_pos c_34, if_neg w_40_0, if_pos w_40_1]) rfl
              · skip
                by_cases w_40_2 : what = 2
                · skip
                  refine g_tableIn E 80 dX0_about_40 (by rw [w_40_2]; decide) (by rw [w_40_2]; decide) (by rw [w_40_2]; rfl) (by decide) ?_
                  refine g_aload_n E 1 dX0_about_80 rfl rfl ?_
                  refine g_get E (ci := 0) inlX0 0 rfl rfl 1 (by decide) fl_X0_15 rfl (.ref (a 4)) rfl dX0_about_81 ?_
                  refine g_iload_n E 0 dX0_about_84 rfl rfl ?_
                  refine g_iald E 2 rfl rfl ((D.2.1 ((rank).toNatClampNeg)).toNatClampNeg) (ix_eq c_28) (ix_lt (N := 9) c_28 c_34) (by decide) dX0_about_85 ?_
                  exact RET 86 _ (D.2.2.1 ((D.2.1 ((rank).toNatClampNeg)).toNatClampNeg)) _ dX0_about_86 rfl (by rw [r_X0_about, if_neg c_1, if_pos c_9, if_pos c_15, if_neg c_28, if_pos c_34, if_neg w_40_0, if_neg w_40_1, if_pos w_40_2]) rfl
                · skip
                  by_cases w_40_3 : what = 3
                  · skip
                    refine g_tableIn E 87 dX0_about_40 (by rw [w_40_3]; decide) (by rw [w_40_3]; decide) (by rw [w_40_3]; rfl) (by decide) ?_
                    refine g_aload_n E 1 dX0_about_87 rfl rfl ?_
                    refine g_get E (ci := 0) inlX0 0 rfl rfl 2 (by decide) fl_X0_18 rfl (.ref (a 5)) rfl dX0_about_88 ?_
                    refine g_iload_n E 0 dX0_about_91 rfl rfl ?_
                    refine g_iald E 3 rfl rfl ((D.2.1 ((rank).toNatClampNeg)).toNatClampNeg) (ix_eq c_28) (ix_lt (N := 9) c_28 c_34) (by decide) dX0_about_92 ?_
                    exact RET 93 _ (D.2.2.2 ((D.2.1 ((rank).toNatClampNeg)).toNatClampNeg)) _ dX0_about_93 rfl (by rw [r_X0_about, if_neg c_1, if_pos c_9, if_pos c_15, if_neg c_28, if_pos c_34, if_neg w_40_0, if_neg w_40_1, if_neg w_40_2, if_pos w_40_3]) rfl
                  · skip
                    refine g_tableOut E 94 dX0_about_40 (by have z0 := lv_neT (x := what) (k := 0) (a := 0) w_40_0 (by decide); have z1 := lv_neT (x := what) (k := 1) (a := 1) w_40_1 (by decide); have z2 := lv_neT (x := what) (k := 2) (a := 2) w_40_2 (by decide); have z3 := lv_neT (x := what) (k := 3) (a := 3) w_40_3 (by decide); omega) (by decide) ?_
                    refine g_bipush E (-2) dX0_about_94 (by decide) ?_
                    exact RET 96 _ (-2) _ dX0_about_96 rfl (by rw [r_X0_about, if_neg c_1, if_pos c_9, if_pos c_15, if_neg c_28, if_pos c_34, if_neg w_40_0, if_neg w_40_1, if_neg w_40_2, if_neg w_40_3]) rfl
          · skip
            refine g_iconst E (-1) dX0_about_37 (by decide) ?_
            exact RET 38 _ (-1) _ dX0_about_38 rfl (by rw [r_X0_about, if_neg c_1, if_pos c_9, if_pos c_15, if_neg c_28, if_neg c_34]) rfl
      · skip
        refine g_iconst E (-1) dX0_about_18 (by decide) ?_
        exact RET 19 _ (-1) _ dX0_about_19 rfl (by rw [r_X0_about, if_neg c_1, if_pos c_9, if_neg c_15]) rfl
set_option maxHeartbeats 1000000 in
set_option maxRecDepth 100000 in
theorem t_X0_about (d : gD) (a : Nat → Nat) (rank : Int32) (what : Int32) (D : DD)  : gMi d yX0_about cX0_about 4 (some .int) R_X0_about [.ref (a 2), .int rank, .int what] (DK d a D) (fun r_ u_ => r_ = r_X0_about rank what D ∧ u_ = DK d a D) :=
  g_met_i RX0 rfl (by decide +kernel) (Nat.le_of_ble_eq_true rfl) [(0, .ref (a 2)), (1, .int rank), (2, .int what)] rfl (fun X E RET => s_X0_about_0 d a rank what D  E (fun pc_ lv_ v_ u_ h1_ h2_ h3_ h4_ => RET pc_ lv_ v_ u_ h1_ h2_ ⟨h3_, h4_⟩))
abbrev R_X0_becomeLike : Room := { frames := 1, cells := 0, slots := 0, locals := 19 }
def c_X0_becomeLike_0 (D : DD) (F : DD) : DD := (upd (upd (upd D.1 0 (F.1 0)) 1 (F.1 1)) 2 (F.1 2), F.2.1, F.2.2.1, F.2.2.2)
set_option maxHeartbeats 1000000 in
set_option maxRecDepth 100000 in
theorem s_X0_becomeLike_0 (d : gD) (a : Nat → Nat) (b : Nat → Nat) (D : DD) (F : DD)   {X : gX} (E : gE d X RX0 cX0_becomeLike 2 R_X0_becomeLike) (RET : ∀ (pc_ : Nat) (lv_ : List (Nat × Value)) (u_ : va_W), decode cX0_becomeLike pc_ = .ok (.return_, 1) → u_ = DK d a (c_X0_becomeLike_0 D F) ++ (DK d b F) → G d X u_ R_X0_becomeLike.cells R_X0_becomeLike.slots pc_ lv_ []) : G d X (DK d a D ++ (DK d b F)) 0 0 0 [(0, .ref (a 2)), (1, .ref (b 2))] [] := by
  refine g_aload_n E 1 dX0_becomeLike_0 rfl rfl ?_
  refine g_get E (ci := 0) inlX0 4 rfl rfl 0 (by decide) fl_X0_9 rfl (.ref (b 3)) rfl dX0_becomeLike_1 ?_
  refine g_iconst E 0 dX0_becomeLike_4 (by decide) ?_
  refine g_aload_n E 0 dX0_becomeLike_5 rfl rfl ?_
  refine g_get E (ci := 0) inlX0 0 rfl rfl 0 (by decide) fl_X0_9 rfl (.ref (a 3)) rfl dX0_becomeLike_6 ?_
  refine g_iconst E 0 dX0_becomeLike_9 (by decide) ?_
  refine g_bipush E 9 dX0_becomeLike_10 (by decide) ?_
  refine g_copyAll E 5 1 rfl rfl rfl rfl rfl (by decide) ml_X0_25 (ok_le rfl) (ok_le rfl) (ws' := DK d a (D.1, F.2.1, D.2.2) ++ (DK d b F)) rfl dX0_becomeLike_12 ?_
  refine g_aload_n E 1 dX0_becomeLike_15 rfl rfl ?_
  refine g_get E (ci := 0) inlX0 4 rfl rfl 1 (by decide) fl_X0_15 rfl (.ref (b 4)) rfl dX0_becomeLike_16 ?_
  refine g_iconst E 0 dX0_becomeLike_19 (by decide) ?_
  refine g_aload_n E 0 dX0_becomeLike_20 rfl rfl ?_
  refine g_get E (ci := 0) inlX0 0 rfl rfl 1 (by decide) fl_X0_15 rfl (.ref (a 4)) rfl dX0_becomeLike_21 ?_
  refine g_iconst E 0 dX0_becomeLike_24 (by decide) ?_
  refine g_bipush E 9 dX0_becomeLike_25 (by decide) ?_
  refine g_copyAll E 6 2 rfl rfl rfl rfl rfl (by decide) ml_X0_25 (ok_le rfl) (ok_le rfl) (ws' := DK d a (D.1, F.2.1, F.2.2.1, D.2.2.2) ++ (DK d b F)) rfl dX0_becomeLike_27 ?_
  refine g_aload_n E 1 dX0_becomeLike_30 rfl rfl ?_
  refine g_get E (ci := 0) inlX0 4 rfl rfl 2 (by decide) fl_X0_18 rfl (.ref (b 5)) rfl dX0_becomeLike_31 ?_
  refine g_iconst E 0 dX0_becomeLike_34 (by decide) ?_
  refine g_aload_n E 0 dX0_becomeLike_35 rfl rfl ?_
  refine g_get E (ci := 0) inlX0 0 rfl rfl 2 (by decide) fl_X0_18 rfl (.ref (a 5)) rfl dX0_becomeLike_36 ?_
  refine g_iconst E 0 dX0_becomeLike_39 (by decide) ?_
  refine g_bipush E 9 dX0_becomeLike_40 (by decide) ?_
  refine g_copyAll E 7 3 rfl rfl rfl rfl rfl (by decide) ml_X0_25 (ok_le rfl) (ok_le rfl) (ws' := DK d a (D.1, F.2.1, F.2.2.1, F.2.2.2) ++ (DK d b F)) rfl dX0_becomeLike_42 ?_
  refine g_aload_n E 0 dX0_becomeLike_45 rfl rfl ?_
  refine g_aload_n E 1 dX0_becomeLike_46 rfl rfl ?_
  refine g_get E (ci := 0) inlX0 4 rfl rfl 3 (by decide) fl_X0_31 rfl (.int (F.1 0)) rfl dX0_becomeLike_47 ?_
  refine g_put E (ci := 0) inlX0 0 rfl rfl 3 (by decide) tyX0 tyX0_ok nmX0 fl_X0_31 rfl rfl rfl rfl (ok_lt rfl) (ws' := DK d a (upd D.1 0 (F.1 0), F.2.1, F.2.2.1, F.2.2.2) ++ (DK d b F)) rfl dX0_becomeLike_50 ?_
  refine g_aload_n E 0 dX0_becomeLike_53 rfl rfl ?_
  refine g_aload_n E 1 dX0_becomeLike_54 rfl rfl ?_
  refine g_get E (ci := 0) inlX0 4 rfl rfl 4 (by decide) fl_X0_21 rfl (.int (F.1 1)) rfl dX0_becomeLike_55 ?_
  refine g_put E (ci := 0) inlX0 0 rfl rfl 4 (by decide) tyX0 tyX0_ok nmX0 fl_X0_21 rfl rfl rfl rfl (ok_lt rfl) (ws' := DK d a (upd (upd D.1 0 (F.1 0)) 1 (F.1 1), F.2.1, F.2.2.1, F.2.2.2) ++ (DK d b F)) rfl dX0_becomeLike_58 ?_
  refine g_aload_n E 0 dX0_becomeLike_61 rfl rfl ?_
  refine g_aload_n E 1 dX0_becomeLike_62 rfl rfl ?_
  refine g_get E (ci := 0) inlX0 4 rfl rfl 5 (by decide) fl_X0_34 rfl (.int (F.1 2)) rfl dX0_becomeLike_63 ?_
  refine g_put E (ci := 0) inlX0 0 rfl rfl 5 (by decide) tyX0 tyX0_ok nmX0 fl_X0_34 rfl rfl rfl rfl (ok_lt rfl) (ws' := DK d a (upd (upd (upd D.1 0 (F.1 0)) 1 (F.1 1)) 2 (F.1 2), F.2.1, F.2.2.1, F.2.2.2) ++ (DK d b F)) rfl dX0_becomeLike_66 ?_
  exact RET 69 _ _ dX0_becomeLike_69 (by rw [c_X0_becomeLike_0])
set_option maxHeartbeats 1000000 in
set_option maxRecDepth 100000 in
theorem t_X0_becomeLike (d : gD) (a : Nat → Nat) (b : Nat → Nat) (D : DD) (F : DD)  : gMv d yX0_becomeLike cX0_becomeLike 2 R_X0_becomeLike [.ref (a 2), .ref (b 2)] (DK d a D ++ (DK d b F)) (fun u_ => u_ = DK d a (c_X0_becomeLike_0 D F) ++ (DK d b F)) :=
  g_met_v RX0 rfl (by decide +kernel) (Nat.le_of_ble_eq_true rfl) [(0, .ref (a 2)), (1, .ref (b 2))] rfl (fun X E _ RET => s_X0_becomeLike_0 d a b D F  E (fun pc_ lv_ u_ h1_ h2_ => RET pc_ lv_ u_ h1_ h2_))
theorem t2_X0_becomeLike (d : gD) (a : Nat → Nat) (b : Nat → Nat) (D : DD) (F : DD) : gMv d yX0_becomeLike cX0_becomeLike 2 R_X0_becomeLike [.ref (a 2), .ref (b 2)] (DK d a D ++ (DK d b F)) (fun u_ => u_ = DK d a F ++ (DK d b F)) := t_X0_becomeLike d a b D F
end
section
theorem ix_sub10 {w : Int32} (h1 : ¬ w < 10) (h2 : w - 10 < 7) : ¬ w - 10 < 0 := by
  grind
abbrev R_X3_isButton : Room := { frames := 0, cells := 0, slots := 0, locals := 0 }
def r_X3_isButton (button : Int32) : Int32 := if button < 0 then 0 else (if button < 8 then 1 else 0)
set_option maxHeartbeats 1000000 in
set_option maxRecDepth 100000 in
theorem s_X3_isButton_0 (d : gD) (button : Int32)   {X : gX} (E : gE d X RX3 cX3_isButton 1 R_X3_isButton) (RET : ∀ (pc_ : Nat) (lv_ : List (Nat × Value)) (v_ : Int32) (u_ : va_W), decode cX3_isButton pc_ = .ok (.ireturn, 1) → narrow .boolean (.int v_) = .int v_ → v_ = r_X3_isButton button → u_ = [] → G d X u_ R_X3_isButton.cells R_X3_isButton.slots pc_ lv_ [.int v_]) : G d X ([]) 0 0 0 [(0, .int button)] [] := by
  refine g_iload_n E 0 dX3_isButton_0 rfl rfl ?_
  refine g_iflt E 14 dX3_isButton_1 (by decide) (fun c_1 => ?_) (fun c_1 => ?_)
  · skip
    refine g_iconst E 0 dX3_isButton_14 (by decide) ?_
    exact RET 15 _ 0 _ dX3_isButton_15 rfl (by rw [r_X3_isButton, if_pos c_1]) rfl
  · skip
    refine g_iload_n E 0 dX3_isButton_4 rfl rfl ?_
    refine g_bipush E 8 dX3_isButton_5 (by decide) ?_
    refine g_icmpge E 14 dX3_isButton_7 (by decide) (fun c_7 => ?_) (fun c_7 => ?_)
    · skip
      refine g_iconst E 0 dX3_isButton_14 (by decide) ?_
      exact RET 15 _ 0 _ dX3_isButton_15 rfl (by rw [r_X3_isButton, if_neg c_1, if_neg c_7]) rfl
    · skip
      refine g_iconst E 1 dX3_isButton_10 (by decide) ?_
      refine g_goto E 15 dX3_isButton_11 (by decide) ?_
      exact RET 15 _ 1 _ dX3_isButton_15 rfl (by rw [r_X3_isButton, if_neg c_1, if_pos c_7]) rfl
set_option maxHeartbeats 1000000 in
set_option maxRecDepth 100000 in
theorem t_X3_isButton (d : gD) (button : Int32)  : gMi d yX3_isButton cX3_isButton 1 (some .boolean) R_X3_isButton [.int button] ([]) (fun r_ u_ => r_ = r_X3_isButton button ∧ u_ = []) :=
  g_met_i RX3 rfl (by decide +kernel) (Nat.le_of_ble_eq_true rfl) [(0, .int button)] rfl (fun X E RET => s_X3_isButton_0 d button  E (fun pc_ lv_ v_ u_ h1_ h2_ h3_ h4_ => RET pc_ lv_ v_ u_ h1_ h2_ ⟨h3_, h4_⟩))
abbrev R_X3_isDown : Room := { frames := 0, cells := 0, slots := 0, locals := 0 }
def r_X3_isDown (button : Int32) (S : SS) : Int32 := if (((S.1 18) >>> (button &&& 31)) &&& 1) = 1 then 1 else 0
set_option maxHeartbeats 1000000 in
set_option maxRecDepth 100000 in
theorem s_X3_isDown_0 (d : gD) (a : Nat → Nat) (button : Int32) (S : SS)   {X : gX} (E : gE d X RX3 cX3_isDown 2 R_X3_isDown) (RET : ∀ (pc_ : Nat) (lv_ : List (Nat × Value)) (v_ : Int32) (u_ : va_W), decode cX3_isDown pc_ = .ok (.ireturn, 1) → narrow .boolean (.int v_) = .int v_ → v_ = r_X3_isDown button S → u_ = SK d a S → G d X u_ R_X3_isDown.cells R_X3_isDown.slots pc_ lv_ [.int v_]) : G d X (SK d a S) 0 0 0 [(0, .ref (a 0)), (1, .int button)] [] := by
  refine g_aload_n E 0 dX3_isDown_0 rfl rfl ?_
  refine g_get E (ci := 3) inlX3 4 rfl rfl 14 (by decide) fl_X3_77 rfl (.int (S.1 18)) rfl dX3_isDown_1 ?_
  refine g_iload_n E 1 dX3_isDown_4 rfl rfl ?_
  refine g_ishr E dX3_isDown_5 ?_
  refine g_iconst E 1 dX3_isDown_6 (by decide) ?_
  refine g_iand E dX3_isDown_7 ?_
  refine g_iconst E 1 dX3_isDown_8 (by decide) ?_
  refine g_icmpne E 16 dX3_isDown_9 (by decide) (fun c_9 => ?_) (fun c_9 => ?_)
  · skip
    refine g_iconst E 0 dX3_isDown_16 (by decide) ?_
    exact RET 17 _ 0 _ dX3_isDown_17 rfl (by rw [r_X3_isDown, if_neg c_9]) rfl
  · skip
    refine g_iconst E 1 dX3_isDown_12 (by decide) ?_
    refine g_goto E 17 dX3_isDown_13 (by decide) ?_
    exact RET 17 _ 1 _ dX3_isDown_17 rfl (by rw [r_X3_isDown, if_pos c_9]) rfl
set_option maxHeartbeats 1000000 in
set_option maxRecDepth 100000 in
theorem t_X3_isDown (d : gD) (a : Nat → Nat) (button : Int32) (S : SS)  : gMi d yX3_isDown cX3_isDown 2 (some .boolean) R_X3_isDown [.ref (a 0), .int button] (SK d a S) (fun r_ u_ => r_ = r_X3_isDown button S ∧ u_ = SK d a S) :=
  g_met_i RX3 rfl (by decide +kernel) (Nat.le_of_ble_eq_true rfl) [(0, .ref (a 0)), (1, .int button)] rfl (fun X E RET => s_X3_isDown_0 d a button S  E (fun pc_ lv_ v_ u_ h1_ h2_ h3_ h4_ => RET pc_ lv_ v_ u_ h1_ h2_ ⟨h3_, h4_⟩))
abbrev R_X3_refusalOfPress : Room := { frames := 1, cells := 0, slots := 0, locals := 21 }
def r_X3_refusalOfPress (button : Int32) (S : SS) : Int32 := if (r_X3_isButton button) = 0 then (-1) else (if (r_X3_isDown button S) = 0 then 0 else (-5))
set_option maxHeartbeats 1000000 in
set_option maxRecDepth 100000 in
theorem s_X3_refusalOfPress_0 (d : gD) (a : Nat → Nat) (button : Int32) (S : SS)   {X : gX} (E : gE d X RX3 cX3_refusalOfPress 2 R_X3_refusalOfPress) (RET : ∀ (pc_ : Nat) (lv_ : List (Nat × Value)) (v_ : Int32) (u_ : va_W), decode cX3_refusalOfPress pc_ = .ok (.ireturn, 1) → narrow .int (.int v_) = .int v_ → v_ = r_X3_refusalOfPress button S → u_ = SK d a S → G d X u_ R_X3_refusalOfPress.cells R_X3_refusalOfPress.slots pc_ lv_ [.int v_]) : G d X (SK d a S) 0 0 0 [(0, .ref (a 0)), (1, .int button)] [] := by
  refine g_iload_n E 1 dX3_refusalOfPress_0 rfl rfl ?_
  refine g_callSp E gc_X3_isButton ml_X3_92 (t_X3_isButton d button ) rfl rfl rfl (ok_le rfl) ⟨ok_le rfl, ok_le rfl, ok_le rfl, ok_le rfl⟩ rfl rfl dX3_refusalOfPress_1 ?_
  refine g_nm (fun v1_ hv1_ => ?_)
  refine g_ifne E 9 dX3_refusalOfPress_4 (by decide) (fun c_4 => ?_) (fun c_4 => ?_)
  · skip
    refine g_aload_n E 0 dX3_refusalOfPress_9 rfl rfl ?_
    refine g_iload_n E 1 dX3_refusalOfPress_10 rfl rfl ?_
    refine g_callVi0 E gc_X3_isDown ml_X3_96 (t_X3_isDown d a button S ) rfl rfl (ci := 3) 4 rfl rfl rfl rfl (ok_le rfl) ⟨ok_le rfl, ok_le rfl, ok_le rfl, ok_le rfl⟩ rfl rfl dX3_refusalOfPress_11 ?_
    refine g_nm (fun v2_ hv2_ => ?_)
    refine g_ifeq E 22 dX3_refusalOfPress_14 (by decide) (fun c_14 => ?_) (fun c_14 => ?_)
    · skip
      refine g_iconst E 0 dX3_refusalOfPress_22 (by decide) ?_
      subst hv2_
      subst hv1_
      exact RET 23 _ 0 _ dX3_refusalOfPress_23 rfl (by rw [r_X3_refusalOfPress, if_neg c_4, if_pos c_14]) rfl
    · skip
      refine g_bipush E (-5) dX3_refusalOfPress_17 (by decide) ?_
      refine g_goto E 23 dX3_refusalOfPress_19 (by decide) ?_
      subst hv2_
      subst hv1_
      exact RET 23 _ (-5) _ dX3_refusalOfPress_23 rfl (by rw [r_X3_refusalOfPress, if_neg c_4, if_neg c_14]) rfl
  · skip
    refine g_iconst E (-1) dX3_refusalOfPress_7 (by decide) ?_
    subst hv1_
    exact RET 8 _ (-1) _ dX3_refusalOfPress_8 rfl (by rw [r_X3_refusalOfPress, if_pos c_4]) rfl
set_option maxHeartbeats 1000000 in
set_option maxRecDepth 100000 in
theorem t_X3_refusalOfPress (d : gD) (a : Nat → Nat) (button : Int32) (S : SS)  : gMi d yX3_refusalOfPress cX3_refusalOfPress 2 (some .int) R_X3_refusalOfPress [.ref (a 0), .int button] (SK d a S) (fun r_ u_ => r_ = r_X3_refusalOfPress button S ∧ u_ = SK d a S) :=
  g_met_i RX3 rfl (by decide +kernel) (Nat.le_of_ble_eq_true rfl) [(0, .ref (a 0)), (1, .int button)] rfl (fun X E RET => s_X3_refusalOfPress_0 d a button S  E (fun pc_ lv_ v_ u_ h1_ h2_ h3_ h4_ => RET pc_ lv_ v_ u_ h1_ h2_ ⟨h3_, h4_⟩))
abbrev R_X3_refusalOfLetUp : Room := { frames := 1, cells := 0, slots := 0, locals := 21 }
def r_X3_refusalOfLetUp (button : Int32) (S : SS) : Int32 := if (r_X3_isButton button) = 0 then (-1) else (if (r_X3_isDown button S) = 0 then (-5) else 0)
set_option maxHeartbeats 1000000 in
set_option maxRecDepth 100000 in
theorem s_X3_refusalOfLetUp_0 (d : gD) (a : Nat → Nat) (button : Int32) (S : SS)   {X : gX} (E : gE d X RX3 cX3_refusalOfLetUp 2 R_X3_refusalOfLetUp) (RET : ∀ (pc_ : Nat) (lv_ : List (Nat × Value)) (v_ : Int32) (u_ : va_W), decode cX3_refusalOfLetUp pc_ = .ok (.ireturn, 1) → narrow .int (.int v_) = .int v_ → v_ = r_X3_refusalOfLetUp button S → u_ = SK d a S → G d X u_ R_X3_refusalOfLetUp.cells R_X3_refusalOfLetUp.slots pc_ lv_ [.int v_]) : G d X (SK d a S) 0 0 0 [(0, .ref (a 0)), (1, .int button)] [] := by
  refine g_iload_n E 1 dX3_refusalOfLetUp_0 rfl rfl ?_
  refine g_callSp E gc_X3_isButton ml_X3_92 (t_X3_isButton d button ) rfl rfl rfl (ok_le rfl) ⟨ok_le rfl, ok_le rfl, ok_le rfl, ok_le rfl⟩ rfl rfl dX3_refusalOfLetUp_1 ?_
  refine g_nm (fun v1_ hv1_ => ?_)
  refine g_ifne E 9 dX3_refusalOfLetUp_4 (by decide) (fun c_4 => ?_) (fun c_4 => ?_)
  · skip
    refine g_aload_n E 0 dX3_refusalOfLetUp_9 rfl rfl ?_
    refine g_iload_n E 1 dX3_refusalOfLetUp_10 rfl rfl ?_
    refine g_callVi0 E gc_X3_isDown ml_X3_96 (t_X3_isDown d a button S ) rfl rfl (ci := 3) 4 rfl rfl rfl rfl (ok_le rfl) ⟨ok_le rfl, ok_le rfl, ok_le rfl, ok_le rfl⟩ rfl rfl dX3_refusalOfLetUp_11 ?_
    refine g_nm (fun v2_ hv2_ => ?_)
    refine g_ifeq E 21 dX3_refusalOfLetUp_14 (by decide) (fun c_14 => ?_) (fun c_14 => ?_)
    · skip
      refine g_bipush E (-5) dX3_refusalOfLetUp_21 (by decide) ?_
      subst hv2_
      subst hv1_
      exact RET 23 _ (-5) _ dX3_refusalOfLetUp_23 rfl (by rw [r_X3_refusalOfLetUp, if_neg c_4, if_pos c_14]) rfl
    · skip
      refine g_iconst E 0 dX3_refusalOfLetUp_17 (by decide) ?_
      refine g_goto E 23 dX3_refusalOfLetUp_18 (by decide) ?_
      subst hv2_
      subst hv1_
      exact RET 23 _ 0 _ dX3_refusalOfLetUp_23 rfl (by rw [r_X3_refusalOfLetUp, if_neg c_4, if_neg c_14]) rfl
  · skip
    refine g_iconst E (-1) dX3_refusalOfLetUp_7 (by decide) ?_
    subst hv1_
    exact RET 8 _ (-1) _ dX3_refusalOfLetUp_8 rfl (by rw [r_X3_refusalOfLetUp, if_pos c_4]) rfl
set_option maxHeartbeats 1000000 in
set_option maxRecDepth 100000 in
theorem t_X3_refusalOfLetUp (d : gD) (a : Nat → Nat) (button : Int32) (S : SS)  : gMi d yX3_refusalOfLetUp cX3_refusalOfLetUp 2 (some .int) R_X3_refusalOfLetUp [.ref (a 0), .int button] (SK d a S) (fun r_ u_ => r_ = r_X3_refusalOfLetUp button S ∧ u_ = SK d a S) :=
  g_met_i RX3 rfl (by decide +kernel) (Nat.le_of_ble_eq_true rfl) [(0, .ref (a 0)), (1, .int button)] rfl (fun X E RET => s_X3_refusalOfLetUp_0 d a button S  E (fun pc_ lv_ v_ u_ h1_ h2_ h3_ h4_ => RET pc_ lv_ v_ u_ h1_ h2_ ⟨h3_, h4_⟩))
abbrev R_X3_pushDown : Room := { frames := 0, cells := 0, slots := 0, locals := 0 }
def r_X3_pushDown (button : Int32) (S : SS) : Int32 := ((S.1 18) ||| (1 <<< (button &&& 31)))
def c_X3_pushDown (button : Int32) (S : SS) : SS := (upd (upd S.1 18 ((S.1 18) ||| (1 <<< (button &&& 31)))) 13 (S.2.1 6), S.2)
set_option maxHeartbeats 1000000 in
set_option maxRecDepth 100000 in
theorem s_X3_pushDown_0 (d : gD) (a : Nat → Nat) (button : Int32) (S : SS)   {X : gX} (E : gE d X RX3 cX3_pushDown 2 R_X3_pushDown) (RET : ∀ (pc_ : Nat) (lv_ : List (Nat × Value)) (v_ : Int32) (u_ : va_W), decode cX3_pushDown pc_ = .ok (.ireturn, 1) → narrow .int (.int v_) = .int v_ → v_ = r_X3_pushDown button S → u_ = SK d a (c_X3_pushDown button S) → G d X u_ R_X3_pushDown.cells R_X3_pushDown.slots pc_ lv_ [.int v_]) : G d X (SK d a S) 0 0 0 [(0, .ref (a 0)), (1, .int button)] [] := by
  refine g_aload_n E 0 dX3_pushDown_0 rfl rfl ?_
  refine g_dup E dX3_pushDown_1 rfl ?_
  refine g_get E (ci := 3) inlX3 4 rfl rfl 14 (by decide) fl_X3_77 rfl (.int (S.1 18)) rfl dX3_pushDown_2 ?_
  refine g_iconst E 1 dX3_pushDown_5 (by decide) ?_
  refine g_iload_n E 1 dX3_pushDown_6 rfl rfl ?_
  refine g_ishl E dX3_pushDown_7 ?_
  refine g_ior E dX3_pushDown_8 ?_
  refine g_put E (ci := 3) inlX3 4 rfl rfl 14 (by decide) tyX3 tyX3_ok nmX3 fl_X3_77 rfl rfl rfl rfl (ok_lt rfl) (ws' := SK d a (upd S.1 18 ((S.1 18) ||| (1 <<< (button &&& 31))), S.2)) rfl dX3_pushDown_9 ?_
  refine g_aload_n E 0 dX3_pushDown_12 rfl rfl ?_
  refine g_aload_n E 0 dX3_pushDown_13 rfl rfl ?_
  refine g_get E (ci := 3) inlX3 4 rfl rfl 0 (by decide) fl_X3_18 rfl (.ref (a 1)) rfl dX3_pushDown_14 ?_
  refine g_bipush E 6 dX3_pushDown_17 (by decide) ?_
  refine g_iald E 5 rfl rfl 6 rfl (by decide) (by decide) dX3_pushDown_19 ?_
  refine g_put E (ci := 3) inlX3 4 rfl rfl 10 (by decide) tyX3 tyX3_ok nmX3 fl_X3_65 rfl rfl rfl rfl (ok_lt rfl) (ws' := SK d a (upd (upd S.1 18 ((S.1 18) ||| (1 <<< (button &&& 31)))) 13 (S.2.1 6), S.2)) rfl dX3_pushDown_20 ?_
  refine g_aload_n E 0 dX3_pushDown_23 rfl rfl ?_
  refine g_get E (ci := 3) inlX3 4 rfl rfl 14 (by decide) fl_X3_77 rfl (.int ((S.1 18) ||| (1 <<< (button &&& 31)))) rfl dX3_pushDown_24 ?_
  exact RET 27 _ ((S.1 18) ||| (1 <<< (button &&& 31))) _ dX3_pushDown_27 rfl (by rw [r_X3_pushDown]) (by rw [c_X3_pushDown])
set_option maxHeartbeats 1000000 in
set_option maxRecDepth 100000 in
theorem t_X3_pushDown (d : gD) (a : Nat → Nat) (button : Int32) (S : SS)  : gMi d yX3_pushDown cX3_pushDown 2 (some .int) R_X3_pushDown [.ref (a 0), .int button] (SK d a S) (fun r_ u_ => r_ = r_X3_pushDown button S ∧ u_ = SK d a (c_X3_pushDown button S)) :=
  g_met_i RX3 rfl (by decide +kernel) (Nat.le_of_ble_eq_true rfl) [(0, .ref (a 0)), (1, .int button)] rfl (fun X E RET => s_X3_pushDown_0 d a button S  E (fun pc_ lv_ v_ u_ h1_ h2_ h3_ h4_ => RET pc_ lv_ v_ u_ h1_ h2_ ⟨h3_, h4_⟩))
abbrev R_X3_release : Room := { frames := 0, cells := 0, slots := 0, locals := 0 }
def r_X3_release (button : Int32) (S : SS) : Int32 := ((S.1 18) &&& ((1 <<< (button &&& 31)) ^^^ (-1)))
def c_X3_release (button : Int32) (S : SS) : SS := (upd S.1 18 ((S.1 18) &&& ((1 <<< (button &&& 31)) ^^^ (-1))), S.2)
set_option maxHeartbeats 1000000 in
set_option maxRecDepth 100000 in
theorem s_X3_release_0 (d : gD) (a : Nat → Nat) (button : Int32) (S : SS)   {X : gX} (E : gE d X RX3 cX3_release 2 R_X3_release) (RET : ∀ (pc_ : Nat) (lv_ : List (Nat × Value)) (v_ : Int32) (u_ : va_W), decode cX3_release pc_ = .ok (.ireturn, 1) → narrow .int (.int v_) = .int v_ → v_ = r_X3_release button S → u_ = SK d a (c_X3_release button S) → G d X u_ R_X3_release.cells R_X3_release.slots pc_ lv_ [.int v_]) : G d X (SK d a S) 0 0 0 [(0, .ref (a 0)), (1, .int button)] [] := by
  refine g_aload_n E 0 dX3_release_0 rfl rfl ?_
  refine g_dup E dX3_release_1 rfl ?_
  refine g_get E (ci := 3) inlX3 4 rfl rfl 14 (by decide) fl_X3_77 rfl (.int (S.1 18)) rfl dX3_release_2 ?_
  refine g_iconst E 1 dX3_release_5 (by decide) ?_
  refine g_iload_n E 1 dX3_release_6 rfl rfl ?_
  refine g_ishl E dX3_release_7 ?_
  refine g_iconst E (-1) dX3_release_8 (by decide) ?_
  refine g_ixor E dX3_release_9 ?_
  refine g_iand E dX3_release_10 ?_
  refine g_put E (ci := 3) inlX3 4 rfl rfl 14 (by decide) tyX3 tyX3_ok nmX3 fl_X3_77 rfl rfl rfl rfl (ok_lt rfl) (ws' := SK d a (upd S.1 18 ((S.1 18) &&& ((1 <<< (button &&& 31)) ^^^ (-1))), S.2)) rfl dX3_release_11 ?_
  refine g_aload_n E 0 dX3_release_14 rfl rfl ?_
  refine g_get E (ci := 3) inlX3 4 rfl rfl 14 (by decide) fl_X3_77 rfl (.int ((S.1 18) &&& ((1 <<< (button &&& 31)) ^^^ (-1)))) rfl dX3_release_15 ?_
  exact RET 18 _ ((S.1 18) &&& ((1 <<< (button &&& 31)) ^^^ (-1))) _ dX3_release_18 rfl (by rw [r_X3_release]) (by rw [c_X3_release])
set_option maxHeartbeats 1000000 in
set_option maxRecDepth 100000 in
theorem t_X3_release (d : gD) (a : Nat → Nat) (button : Int32) (S : SS)  : gMi d yX3_release cX3_release 2 (some .int) R_X3_release [.ref (a 0), .int button] (SK d a S) (fun r_ u_ => r_ = r_X3_release button S ∧ u_ = SK d a (c_X3_release button S)) :=
  g_met_i RX3 rfl (by decide +kernel) (Nat.le_of_ble_eq_true rfl) [(0, .ref (a 0)), (1, .int button)] rfl (fun X E RET => s_X3_release_0 d a button S  E (fun pc_ lv_ v_ u_ h1_ h2_ h3_ h4_ => RET pc_ lv_ v_ u_ h1_ h2_ ⟨h3_, h4_⟩))
abbrev R_X3_refusalOfSamples : Room := { frames := 1, cells := 0, slots := 0, locals := 21 }
def r_X3_refusalOfSamples (x : Int32) (y : Int32) (many : Int32) (S : SS) : Int32 := if (r_X4_isSample x y) = 0 then (-2) else (if 9999 < ((S.1 21) + many) then (-5) else 0)
set_option maxHeartbeats 1000000 in
set_option maxRecDepth 100000 in
theorem s_X3_refusalOfSamples_0 (d : gD) (a : Nat → Nat) (x : Int32) (y : Int32) (many : Int32) (S : SS)   {X : gX} (E : gE d X RX3 cX3_refusalOfSamples 4 R_X3_refusalOfSamples) (RET : ∀ (pc_ : Nat) (lv_ : List (Nat × Value)) (v_ : Int32) (u_ : va_W), decode cX3_refusalOfSamples pc_ = .ok (.ireturn, 1) → narrow .int (.int v_) = .int v_ → v_ = r_X3_refusalOfSamples x y many S → u_ = SK d a S → G d X u_ R_X3_refusalOfSamples.cells R_X3_refusalOfSamples.slots pc_ lv_ [.int v_]) : G d X (SK d a S) 0 0 0 [(0, .ref (a 0)), (1, .int x), (2, .int y), (3, .int many)] [] := by
  refine g_iload_n E 1 dX3_refusalOfSamples_0 rfl rfl ?_
  refine g_iload_n E 2 dX3_refusalOfSamples_1 rfl rfl ?_
  refine g_callSNp E gc_X4_isSample (List.mem_of_getElem? (i := 6) rfl) (t_X4_isSample d x y ) rfl rfl rfl (ok_le rfl) ⟨ok_le rfl, ok_le rfl, ok_le rfl, ok_le rfl⟩ rfl rfl dX3_refusalOfSamples_2 ?_
  refine g_nm (fun v1_ hv1_ => ?_)
  refine g_ifne E 11 dX3_refusalOfSamples_5 (by decide) (fun c_5 => ?_) (fun c_5 => ?_)
  · skip
    refine g_aload_n E 0 dX3_refusalOfSamples_11 rfl rfl ?_
    refine g_get E (ci := 3) inlX3 4 rfl rfl 11 (by decide) fl_X3_68 rfl (.int (S.1 21)) rfl dX3_refusalOfSamples_12 ?_
    refine g_iload_n E 3 dX3_refusalOfSamples_15 rfl rfl ?_
    refine g_iadd E dX3_refusalOfSamples_16 ?_
    refine g_sipush E 9999 dX3_refusalOfSamples_17 (by decide) ?_
    refine g_icmple E 28 dX3_refusalOfSamples_20 (by decide) (fun c_20 => ?_) (fun c_20 => ?_)
    · skip
      refine g_iconst E 0 dX3_refusalOfSamples_28 (by decide) ?_
      subst hv1_
      exact RET 29 _ 0 _ dX3_refusalOfSamples_29 rfl (by rw [r_X3_refusalOfSamples, if_neg c_5, if_neg c_20]) rfl
    · skip
      refine g_bipush E (-5) dX3_refusalOfSamples_23 (by decide) ?_
      refine g_goto E 29 dX3_refusalOfSamples_25 (by decide) ?_
      subst hv1_
      exact RET 29 _ (-5) _ dX3_refusalOfSamples_29 rfl (by rw [r_X3_refusalOfSamples, if_neg c_5, if_pos c_20]) rfl
  · skip
    refine g_bipush E (-2) dX3_refusalOfSamples_8 (by decide) ?_
    subst hv1_
    exact RET 10 _ (-2) _ dX3_refusalOfSamples_10 rfl (by rw [r_X3_refusalOfSamples, if_pos c_5]) rfl
set_option maxHeartbeats 1000000 in
set_option maxRecDepth 100000 in
theorem t_X3_refusalOfSamples (d : gD) (a : Nat → Nat) (x : Int32) (y : Int32) (many : Int32) (S : SS)  : gMi d yX3_refusalOfSamples cX3_refusalOfSamples 4 (some .int) R_X3_refusalOfSamples [.ref (a 0), .int x, .int y, .int many] (SK d a S) (fun r_ u_ => r_ = r_X3_refusalOfSamples x y many S ∧ u_ = SK d a S) :=
  g_met_i RX3 rfl (by decide +kernel) (Nat.le_of_ble_eq_true rfl) [(0, .ref (a 0)), (1, .int x), (2, .int y), (3, .int many)] rfl (fun X E RET => s_X3_refusalOfSamples_0 d a x y many S  E (fun pc_ lv_ v_ u_ h1_ h2_ h3_ h4_ => RET pc_ lv_ v_ u_ h1_ h2_ ⟨h3_, h4_⟩))
abbrev R_X3_restPlaceX : Room := { frames := 0, cells := 0, slots := 0, locals := 0 }
def r_X3_restPlaceX (S : SS) : Int32 := ((S.1 7) / 16)
set_option maxHeartbeats 1000000 in
set_option maxRecDepth 100000 in
theorem s_X3_restPlaceX_0 (d : gD) (a : Nat → Nat) (S : SS)   {X : gX} (E : gE d X RX3 cX3_restPlaceX 1 R_X3_restPlaceX) (RET : ∀ (pc_ : Nat) (lv_ : List (Nat × Value)) (v_ : Int32) (u_ : va_W), decode cX3_restPlaceX pc_ = .ok (.ireturn, 1) → narrow .int (.int v_) = .int v_ → v_ = r_X3_restPlaceX S → u_ = SK d a S → G d X u_ R_X3_restPlaceX.cells R_X3_restPlaceX.slots pc_ lv_ [.int v_]) : G d X (SK d a S) 0 0 0 [(0, .ref (a 0))] [] := by
  refine g_aload_n E 0 dX3_restPlaceX_0 rfl rfl ?_
  refine g_get E (ci := 3) inlX3 4 rfl rfl 2 (by decide) fl_X3_30 rfl (.int (S.1 7)) rfl dX3_restPlaceX_1 ?_
  refine g_bipush E 16 dX3_restPlaceX_4 (by decide) ?_
  refine g_idiv E dX3_restPlaceX_6 (by decide) ?_
  exact RET 7 _ ((S.1 7) / 16) _ dX3_restPlaceX_7 rfl (by rw [r_X3_restPlaceX]) rfl
set_option maxHeartbeats 1000000 in
set_option maxRecDepth 100000 in
theorem t_X3_restPlaceX (d : gD) (a : Nat → Nat) (S : SS)  : gMi d yX3_restPlaceX cX3_restPlaceX 1 (some .int) R_X3_restPlaceX [.ref (a 0)] (SK d a S) (fun r_ u_ => r_ = r_X3_restPlaceX S ∧ u_ = SK d a S) :=
  g_met_i RX3 rfl (by decide +kernel) (Nat.le_of_ble_eq_true rfl) [(0, .ref (a 0))] rfl (fun X E RET => s_X3_restPlaceX_0 d a S  E (fun pc_ lv_ v_ u_ h1_ h2_ h3_ h4_ => RET pc_ lv_ v_ u_ h1_ h2_ ⟨h3_, h4_⟩))
abbrev R_X3_restPlaceY : Room := { frames := 0, cells := 0, slots := 0, locals := 0 }
def r_X3_restPlaceY (S : SS) : Int32 := ((S.1 8) / 16)
set_option maxHeartbeats 1000000 in
set_option maxRecDepth 100000 in
theorem s_X3_restPlaceY_0 (d : gD) (a : Nat → Nat) (S : SS)   {X : gX} (E : gE d X RX3 cX3_restPlaceY 1 R_X3_restPlaceY) (RET : ∀ (pc_ : Nat) (lv_ : List (Nat × Value)) (v_ : Int32) (u_ : va_W), decode cX3_restPlaceY pc_ = .ok (.ireturn, 1) → narrow .int (.int v_) = .int v_ → v_ = r_X3_restPlaceY S → u_ = SK d a S → G d X u_ R_X3_restPlaceY.cells R_X3_restPlaceY.slots pc_ lv_ [.int v_]) : G d X (SK d a S) 0 0 0 [(0, .ref (a 0))] [] := by
  refine g_aload_n E 0 dX3_restPlaceY_0 rfl rfl ?_
  refine g_get E (ci := 3) inlX3 4 rfl rfl 3 (by decide) fl_X3_34 rfl (.int (S.1 8)) rfl dX3_restPlaceY_1 ?_
  refine g_bipush E 16 dX3_restPlaceY_4 (by decide) ?_
  refine g_idiv E dX3_restPlaceY_6 (by decide) ?_
  exact RET 7 _ ((S.1 8) / 16) _ dX3_restPlaceY_7 rfl (by rw [r_X3_restPlaceY]) rfl
set_option maxHeartbeats 1000000 in
set_option maxRecDepth 100000 in
theorem t_X3_restPlaceY (d : gD) (a : Nat → Nat) (S : SS)  : gMi d yX3_restPlaceY cX3_restPlaceY 1 (some .int) R_X3_restPlaceY [.ref (a 0)] (SK d a S) (fun r_ u_ => r_ = r_X3_restPlaceY S ∧ u_ = SK d a S) :=
  g_met_i RX3 rfl (by decide +kernel) (Nat.le_of_ble_eq_true rfl) [(0, .ref (a 0))] rfl (fun X E RET => s_X3_restPlaceY_0 d a S  E (fun pc_ lv_ v_ u_ h1_ h2_ h3_ h4_ => RET pc_ lv_ v_ u_ h1_ h2_ ⟨h3_, h4_⟩))
abbrev R_X3_isOffByNothing : Room := { frames := 1, cells := 0, slots := 0, locals := 20 }
def r_X3_isOffByNothing (x : Int32) (y : Int32) (S : SS) : Int32 := if x = (r_X3_restPlaceX S) then (if y = (r_X3_restPlaceY S) then 1 else 0) else 0
set_option maxHeartbeats 1000000 in
set_option maxRecDepth 100000 in
theorem s_X3_isOffByNothing_0 (d : gD) (a : Nat → Nat) (x : Int32) (y : Int32) (S : SS)   {X : gX} (E : gE d X RX3 cX3_isOffByNothing 3 R_X3_isOffByNothing) (RET : ∀ (pc_ : Nat) (lv_ : List (Nat × Value)) (v_ : Int32) (u_ : va_W), decode cX3_isOffByNothing pc_ = .ok (.ireturn, 1) → narrow .boolean (.int v_) = .int v_ → v_ = r_X3_isOffByNothing x y S → u_ = SK d a S → G d X u_ R_X3_isOffByNothing.cells R_X3_isOffByNothing.slots pc_ lv_ [.int v_]) : G d X (SK d a S) 0 0 0 [(0, .ref (a 0)), (1, .int x), (2, .int y)] [] := by
  refine g_iload_n E 1 dX3_isOffByNothing_0 rfl rfl ?_
  refine g_aload_n E 0 dX3_isOffByNothing_1 rfl rfl ?_
  refine g_callVi0 E gc_X3_restPlaceX ml_X3_103 (t_X3_restPlaceX d a S ) rfl rfl (ci := 3) 4 rfl rfl rfl rfl (ok_le rfl) ⟨ok_le rfl, ok_le rfl, ok_le rfl, ok_le rfl⟩ rfl rfl dX3_isOffByNothing_2 ?_
  refine g_nm (fun v1_ hv1_ => ?_)
  refine g_icmpne E 20 dX3_isOffByNothing_5 (by decide) (fun c_5 => ?_) (fun c_5 => ?_)
  · skip
    refine g_iconst E 0 dX3_isOffByNothing_20 (by decide) ?_
    subst hv1_
    exact RET 21 _ 0 _ dX3_isOffByNothing_21 rfl (by rw [r_X3_isOffByNothing, if_neg c_5]) rfl
  · skip
    refine g_iload_n E 2 dX3_isOffByNothing_8 rfl rfl ?_
    refine g_aload_n E 0 dX3_isOffByNothing_9 rfl rfl ?_
    refine g_callVi0 E gc_X3_restPlaceY ml_X3_107 (t_X3_restPlaceY d a S ) rfl rfl (ci := 3) 4 rfl rfl rfl rfl (ok_le rfl) ⟨ok_le rfl, ok_le rfl, ok_le rfl, ok_le rfl⟩ rfl rfl dX3_isOffByNothing_10 ?_
    refine g_nm (fun v2_ hv2_ => ?_)
    refine g_icmpne E 20 dX3_isOffByNothing_13 (by decide) (fun c_13 => ?_) (fun c_13 => ?_)
    · skip
      refine g_iconst E 0 dX3_isOffByNothing_20 (by decide) ?_
      subst hv2_
      subst hv1_
      exact RET 21 _ 0 _ dX3_isOffByNothing_21 rfl (by rw [r_X3_isOffByNothing, if_pos c_5, if_neg c_13]) rfl
    · skip
      refine g_iconst E 1 dX3_isOffByNothing_16 (by decide) ?_
      refine g_goto E 21 dX3_isOffByNothing_17 (by decide) ?_
      subst hv2_
      subst hv1_
      exact RET 21 _ 1 _ dX3_isOffByNothing_21 rfl (by rw [r_X3_isOffByNothing, if_pos c_5, if_pos c_13]) rfl
set_option maxHeartbeats 1000000 in
set_option maxRecDepth 100000 in
theorem t_X3_isOffByNothing (d : gD) (a : Nat → Nat) (x : Int32) (y : Int32) (S : SS)  : gMi d yX3_isOffByNothing cX3_isOffByNothing 3 (some .boolean) R_X3_isOffByNothing [.ref (a 0), .int x, .int y] (SK d a S) (fun r_ u_ => r_ = r_X3_isOffByNothing x y S ∧ u_ = SK d a S) :=
  g_met_i RX3 rfl (by decide +kernel) (Nat.le_of_ble_eq_true rfl) [(0, .ref (a 0)), (1, .int x), (2, .int y)] rfl (fun X E RET => s_X3_isOffByNothing_0 d a x y S  E (fun pc_ lv_ v_ u_ h1_ h2_ h3_ h4_ => RET pc_ lv_ v_ u_ h1_ h2_ ⟨h3_, h4_⟩))
abbrev R_X3_farthestOff : Room := { frames := 1, cells := 0, slots := 0, locals := 20 }
def r_X3_farthestOff (x : Int32) (y : Int32) (S : SS) : Int32 := (imax (iabs (x - (r_X3_restPlaceX S))) (iabs (y - (r_X3_restPlaceY S))))
set_option maxHeartbeats 1000000 in
set_option maxRecDepth 100000 in
theorem s_X3_farthestOff_0 (d : gD) (a : Nat → Nat) (x : Int32) (y : Int32) (S : SS)   {X : gX} (E : gE d X RX3 cX3_farthestOff 3 R_X3_farthestOff) (RET : ∀ (pc_ : Nat) (lv_ : List (Nat × Value)) (v_ : Int32) (u_ : va_W), decode cX3_farthestOff pc_ = .ok (.ireturn, 1) → narrow .int (.int v_) = .int v_ → v_ = r_X3_farthestOff x y S → u_ = SK d a S → G d X u_ R_X3_farthestOff.cells R_X3_farthestOff.slots pc_ lv_ [.int v_]) : G d X (SK d a S) 0 0 0 [(0, .ref (a 0)), (1, .int x), (2, .int y)] [] := by
  refine g_iload_n E 1 dX3_farthestOff_0 rfl rfl ?_
  refine g_aload_n E 0 dX3_farthestOff_1 rfl rfl ?_
  refine g_callVi0 E gc_X3_restPlaceX ml_X3_103 (t_X3_restPlaceX d a S ) rfl rfl (ci := 3) 4 rfl rfl rfl rfl (ok_le rfl) ⟨ok_le rfl, ok_le rfl, ok_le rfl, ok_le rfl⟩ rfl rfl dX3_farthestOff_2 ?_
  refine g_nm (fun v1_ hv1_ => ?_)
  refine g_isub E dX3_farthestOff_5 ?_
  refine g_abs E ml_X3_86 (ok_le rfl) (ok_le rfl) (ok_le rfl) (ok_le rfl) dX3_farthestOff_6 ?_
  refine g_top (b := iabs (x - v1_)) rfl ?_
  refine g_iload_n E 2 dX3_farthestOff_9 rfl rfl ?_
  refine g_aload_n E 0 dX3_farthestOff_10 rfl rfl ?_
  refine g_callVi0 E gc_X3_restPlaceY ml_X3_107 (t_X3_restPlaceY d a S ) rfl rfl (ci := 3) 4 rfl rfl rfl rfl (ok_le rfl) ⟨ok_le rfl, ok_le rfl, ok_le rfl, ok_le rfl⟩ rfl rfl dX3_farthestOff_11 ?_
  refine g_nm (fun v2_ hv2_ => ?_)
  refine g_isub E dX3_farthestOff_14 ?_
  refine g_abs E ml_X3_86 (ok_le rfl) (ok_le rfl) (ok_le rfl) (ok_le rfl) dX3_farthestOff_15 ?_
  refine g_top (b := iabs (y - v2_)) rfl ?_
  refine g_max E ml_X3_110 (ok_le rfl) (ok_le rfl) (ok_le rfl) (ok_le rfl) dX3_farthestOff_18 ?_
  refine g_top (b := imax (iabs (x - v1_)) (iabs (y - v2_))) rfl ?_
  subst hv2_
  subst hv1_
  exact RET 21 _ (imax (iabs (x - (r_X3_restPlaceX S))) (iabs (y - (r_X3_restPlaceY S)))) _ dX3_farthestOff_21 rfl (by rw [r_X3_farthestOff]) rfl
set_option maxHeartbeats 1000000 in
set_option maxRecDepth 100000 in
theorem t_X3_farthestOff (d : gD) (a : Nat → Nat) (x : Int32) (y : Int32) (S : SS)  : gMi d yX3_farthestOff cX3_farthestOff 3 (some .int) R_X3_farthestOff [.ref (a 0), .int x, .int y] (SK d a S) (fun r_ u_ => r_ = r_X3_farthestOff x y S ∧ u_ = SK d a S) :=
  g_met_i RX3 rfl (by decide +kernel) (Nat.le_of_ble_eq_true rfl) [(0, .ref (a 0)), (1, .int x), (2, .int y)] rfl (fun X E RET => s_X3_farthestOff_0 d a x y S  E (fun pc_ lv_ v_ u_ h1_ h2_ h3_ h4_ => RET pc_ lv_ v_ u_ h1_ h2_ ⟨h3_, h4_⟩))
end
section
abbrev R_X3_stillWith : Room := { frames := 1, cells := 0, slots := 0, locals := 13 }
def j_X3_stillWith_38_s0 (x : Int32) (y : Int32) (S : SS) : Int32 := if 0 < (S.1 21) then (if 1 < (iabs (x - (S.1 10))) then 0 else (if 1 < (iabs (y - (S.1 11))) then 0 else 1)) else 0
def r_X3_stillWith_at38 (x : Int32) (y : Int32) (S : SS) : Int32 := if (j_X3_stillWith_38_s0 x y S) = 0 then 0 else ((S.1 12) + 1)
def r_X3_stillWith (x : Int32) (y : Int32) (S : SS) : Int32 := r_X3_stillWith_at38 x y S
set_option maxHeartbeats 1000000 in
set_option maxRecDepth 100000 in
theorem s_X3_stillWith_38 (d : gD) (a : Nat → Nat) (x : Int32) (y : Int32) (S : SS)   {X : gX} (E : gE d X RX3 cX3_stillWith 4 R_X3_stillWith) (RET : ∀ (pc_ : Nat) (lv_ : List (Nat × Value)) (v_ : Int32) (u_ : va_W), decode cX3_stillWith pc_ = .ok (.ireturn, 1) → narrow .int (.int v_) = .int v_ → v_ = r_X3_stillWith_at38 x y S → u_ = SK d a S → G d X u_ R_X3_stillWith.cells R_X3_stillWith.slots pc_ lv_ [.int v_]) : G d X (SK d a S) 0 0 38 [(0, .ref (a 0)), (1, .int x), (2, .int y)] [.int (j_X3_stillWith_38_s0 x y S)] := by
  obtain ⟨J1_, hJ1_⟩ : ∃ z, j_X3_stillWith_38_s0 x y S = z := ⟨_, rfl⟩
  rw [hJ1_]
  refine g_istore_n E (lv' := [(3, .int J1_), (0, .ref (a 0)), (1, .int x), (2, .int y)]) dX3_stillWith_38 rfl (by decide) rfl ?_
  refine g_iload_n E 0 dX3_stillWith_39 rfl rfl ?_
  refine g_ifeq E 52 dX3_stillWith_40 (by decide) (fun c_40 => ?_) (fun c_40 => ?_)
  · skip
    refine g_iconst E 0 dX3_stillWith_52 (by decide) ?_
    subst hJ1_
    exact RET 53 _ 0 _ dX3_stillWith_53 rfl (by rw [r_X3_stillWith_at38, if_pos c_40]) rfl
  · skip
    refine g_aload_n E 1 dX3_stillWith_43 rfl rfl ?_
    refine g_get E (ci := 3) inlX3 4 rfl rfl 9 (by decide) fl_X3_62 rfl (.int (S.1 12)) rfl dX3_stillWith_44 ?_
    refine g_iconst E 1 dX3_stillWith_47 (by decide) ?_
    refine g_iadd E dX3_stillWith_48 ?_
    refine g_goto E 53 dX3_stillWith_49 (by decide) ?_
    subst hJ1_
    exact RET 53 _ ((S.1 12) + 1) _ dX3_stillWith_53 rfl (by rw [r_X3_stillWith_at38, if_neg c_40]) rfl
set_option maxHeartbeats 1000000 in
set_option maxRecDepth 100000 in
theorem s_X3_stillWith_0 (d : gD) (a : Nat → Nat) (x : Int32) (y : Int32) (S : SS)   {X : gX} (E : gE d X RX3 cX3_stillWith 4 R_X3_stillWith) (RET : ∀ (pc_ : Nat) (lv_ : List (Nat × Value)) (v_ : Int32) (u_ : va_W), decode cX3_stillWith pc_ = .ok (.ireturn, 1) → narrow .int (.int v_) = .int v_ → v_ = r_X3_stillWith x y S → u_ = SK d a S → G d X u_ R_X3_stillWith.cells R_X3_stillWith.slots pc_ lv_ [.int v_]) : G d X (SK d a S) 0 0 0 [(0, .ref (a 0)), (1, .int x), (2, .int y)] [] := by
  refine g_aload_n E 0 dX3_stillWith_0 rfl rfl ?_
  refine g_get E (ci := 3) inlX3 4 rfl rfl 11 (by decide) fl_X3_68 rfl (.int (S.1 21)) rfl dX3_stillWith_1 ?_
  refine g_ifle E 37 dX3_stillWith_4 (by decide) (fun c_4 => ?_) (fun c_4 => ?_)
  · skip
    refine g_iconst E 0 dX3_stillWith_37 (by decide) ?_
    have J := s_X3_stillWith_38 d a x y S   E (fun pc_ lv_ v_ u_ h1_ h2_ h3_ h4_ => RET pc_ lv_ v_ u_ h1_ h2_ (h3_.trans (by rw [r_X3_stillWith])) h4_)
    rw [j_X3_stillWith_38_s0, if_neg c_4] at J
    exact J
  · skip
    refine g_iload_n E 1 dX3_stillWith_7 rfl rfl ?_
    refine g_aload_n E 0 dX3_stillWith_8 rfl rfl ?_
    refine g_get E (ci := 3) inlX3 4 rfl rfl 7 (by decide) fl_X3_56 rfl (.int (S.1 10)) rfl dX3_stillWith_9 ?_
    refine g_isub E dX3_stillWith_12 ?_
    refine g_abs E ml_X3_86 (ok_le rfl) (ok_le rfl) (ok_le rfl) (ok_le rfl) dX3_stillWith_13 ?_
    refine g_top (b := iabs (x - (S.1 10))) rfl ?_
    refine g_iconst E 1 dX3_stillWith_16 (by decide) ?_
    refine g_icmpgt E 37 dX3_stillWith_17 (by decide) (fun c_17 => ?_) (fun c_17 => ?_)
    · skip
      refine g_iconst E 0 dX3_stillWith_37 (by decide) ?_
      have J := s_X3_stillWith_38 d a x y S   E (fun pc_ lv_ v_ u_ h1_ h2_ h3_ h4_ => RET pc_ lv_ v_ u_ h1_ h2_ (h3_.trans (by rw [r_X3_stillWith])) h4_)
      rw [j_X3_stillWith_38_s0, if_pos c_4, if_pos c_17] at J
      exact J
    · skip
      refine g_iload_n E 2 dX3_stillWith_20 rfl rfl ?_
      refine g_aload_n E 0 dX3_stillWith_21 rfl rfl ?_
      refine g_get E (ci := 3) inlX3 4 rfl rfl 8 (by decide) fl_X3_59 rfl (.int (S.1 11)) rfl dX3_stillWith_22 ?_
      refine g_isub E dX3_stillWith_25 ?_
      refine g_abs E ml_X3_86 (ok_le rfl) (ok_le rfl) (ok_le rfl) (ok_le rfl) dX3_stillWith_26 ?_
      refine g_top (b := iabs (y - (S.1 11))) rfl ?_
      refine g_iconst E 1 dX3_stillWith_29 (by decide) ?_
      refine g_icmpgt E 37 dX3_stillWith_30 (by decide) (fun c_30 => ?_) (fun c_30 => ?_)
      · skip
        refine g_iconst E 0 dX3_stillWith_37 (by decide) ?_
        have J := s_X3_stillWith_38 d a x y S   E (fun pc_ lv_ v_ u_ h1_ h2_ h3_ h4_ => RET pc_ lv_ v_ u_ h1_ h2_ (h3_.trans (by rw [r_X3_stillWith])) h4_)
        rw [j_X3_stillWith_38_s0, if_pos c_4, if_neg c_17, if_pos c_30] at J
        exact J
      · skip
        refine g_iconst E 1 dX3_stillWith_33 (by decide) ?_
        refine g_goto E 38 dX3_stillWith_34 (by decide) ?_
        have J := s_X3_stillWith_38 d a x y S   E (fun pc_ lv_ v_ u_ h1_ h2_ h3_ h4_ => RET pc_ lv_ v_ u_ h1_ h2_ (h3_.trans (by rw [r_X3_stillWith])) h4_)
        rw [j_X3_stillWith_38_s0, if_pos c_4, if_neg c_17, if_neg c_30] at J
        exact J
set_option maxHeartbeats 1000000 in
set_option maxRecDepth 100000 in
theorem t_X3_stillWith (d : gD) (a : Nat → Nat) (x : Int32) (y : Int32) (S : SS)  : gMi d yX3_stillWith cX3_stillWith 4 (some .int) R_X3_stillWith [.ref (a 0), .int x, .int y] (SK d a S) (fun r_ u_ => r_ = r_X3_stillWith x y S ∧ u_ = SK d a S) :=
  g_met_i RX3 rfl (by decide +kernel) (Nat.le_of_ble_eq_true rfl) [(0, .ref (a 0)), (1, .int x), (2, .int y)] rfl (fun X E RET => s_X3_stillWith_0 d a x y S  E (fun pc_ lv_ v_ u_ h1_ h2_ h3_ h4_ => RET pc_ lv_ v_ u_ h1_ h2_ ⟨h3_, h4_⟩))
abbrev R_X3_wouldDrift : Room := { frames := 2, cells := 0, slots := 0, locals := 42 }
def r_X3_wouldDrift (x : Int32) (y : Int32) (S : SS) : Int32 := if (S.1 13) = 0 then (if (S.1 9) < (r_X3_farthestOff x y S) then (if ((S.1 9) + 8) < (r_X3_farthestOff x y S) then 0 else (if (r_X3_stillWith x y S) < (S.2.1 5) then 0 else 1)) else 0) else 0
set_option maxHeartbeats 1000000 in
set_option maxRecDepth 100000 in
theorem s_X3_wouldDrift_0 (d : gD) (a : Nat → Nat) (x : Int32) (y : Int32) (S : SS)   {X : gX} (E : gE d X RX3 cX3_wouldDrift 4 R_X3_wouldDrift) (RET : ∀ (pc_ : Nat) (lv_ : List (Nat × Value)) (v_ : Int32) (u_ : va_W), decode cX3_wouldDrift pc_ = .ok (.ireturn, 1) → narrow .boolean (.int v_) = .int v_ → v_ = r_X3_wouldDrift x y S → u_ = SK d a S → G d X u_ R_X3_wouldDrift.cells R_X3_wouldDrift.slots pc_ lv_ [.int v_]) : G d X (SK d a S) 0 0 0 [(0, .ref (a 0)), (1, .int x), (2, .int y)] [] := by
  refine g_aload_n E 0 dX3_wouldDrift_0 rfl rfl ?_
  refine g_iload_n E 1 dX3_wouldDrift_1 rfl rfl ?_
  refine g_iload_n E 2 dX3_wouldDrift_2 rfl rfl ?_
  refine g_callVi0 E gc_X3_farthestOff ml_X3_114 (t_X3_farthestOff d a x y S ) rfl rfl (ci := 3) 4 rfl rfl rfl rfl (ok_le rfl) ⟨ok_le rfl, ok_le rfl, ok_le rfl, ok_le rfl⟩ rfl rfl dX3_wouldDrift_3 ?_
  refine g_nm (fun v1_ hv1_ => ?_)
  refine g_istore_n E (lv' := [(3, .int v1_), (0, .ref (a 0)), (1, .int x), (2, .int y)]) dX3_wouldDrift_6 rfl (by decide) rfl ?_
  refine g_aload_n E 1 dX3_wouldDrift_7 rfl rfl ?_
  refine g_get E (ci := 3) inlX3 4 rfl rfl 10 (by decide) fl_X3_65 rfl (.int (S.1 13)) rfl dX3_wouldDrift_8 ?_
  refine g_ifne E 52 dX3_wouldDrift_11 (by decide) (fun c_11 => ?_) (fun c_11 => ?_)
  · skip
    refine g_iconst E 0 dX3_wouldDrift_52 (by decide) ?_
    subst hv1_
    exact RET 53 _ 0 _ dX3_wouldDrift_53 rfl (by rw [r_X3_wouldDrift, if_neg c_11]) rfl
  · skip
    refine g_iload_n E 0 dX3_wouldDrift_14 rfl rfl ?_
    refine g_aload_n E 1 dX3_wouldDrift_15 rfl rfl ?_
    refine g_get E (ci := 3) inlX3 4 rfl rfl 4 (by decide) fl_X3_37 rfl (.int (S.1 9)) rfl dX3_wouldDrift_16 ?_
    refine g_icmple E 52 dX3_wouldDrift_19 (by decide) (fun c_19 => ?_) (fun c_19 => ?_)
    · skip
      refine g_iconst E 0 dX3_wouldDrift_52 (by decide) ?_
      subst hv1_
      exact RET 53 _ 0 _ dX3_wouldDrift_53 rfl (by rw [r_X3_wouldDrift, if_pos c_11, if_neg c_19]) rfl
    · skip
      refine g_iload_n E 0 dX3_wouldDrift_22 rfl rfl ?_
      refine g_aload_n E 1 dX3_wouldDrift_23 rfl rfl ?_
      refine g_get E (ci := 3) inlX3 4 rfl rfl 4 (by decide) fl_X3_37 rfl (.int (S.1 9)) rfl dX3_wouldDrift_24 ?_
      refine g_bipush E 8 dX3_wouldDrift_27 (by decide) ?_
      refine g_iadd E dX3_wouldDrift_29 ?_
      refine g_icmpgt E 52 dX3_wouldDrift_30 (by decide) (fun c_30 => ?_) (fun c_30 => ?_)
      · skip
        refine g_iconst E 0 dX3_wouldDrift_52 (by decide) ?_
        subst hv1_
        exact RET 53 _ 0 _ dX3_wouldDrift_53 rfl (by rw [r_X3_wouldDrift, if_pos c_11, if_pos c_19, if_pos c_30]) rfl
      · skip
        refine g_aload_n E 1 dX3_wouldDrift_33 rfl rfl ?_
        refine g_iload_n E 2 dX3_wouldDrift_34 rfl rfl ?_
        refine g_iload_n E 3 dX3_wouldDrift_35 rfl rfl ?_
        refine g_callVi0 E gc_X3_stillWith ml_X3_117 (t_X3_stillWith d a x y S ) rfl rfl (ci := 3) 4 rfl rfl rfl rfl (ok_le rfl) ⟨ok_le rfl, ok_le rfl, ok_le rfl, ok_le rfl⟩ rfl rfl dX3_wouldDrift_36 ?_
        refine g_nm (fun v2_ hv2_ => ?_)
        refine g_aload_n E 1 dX3_wouldDrift_39 rfl rfl ?_
        refine g_get E (ci := 3) inlX3 4 rfl rfl 0 (by decide) fl_X3_18 rfl (.ref (a 1)) rfl dX3_wouldDrift_40 ?_
        refine g_iconst E 5 dX3_wouldDrift_43 (by decide) ?_
        refine g_iald E 5 rfl rfl 5 rfl (by decide) (by decide) dX3_wouldDrift_44 ?_
        refine g_icmplt E 52 dX3_wouldDrift_45 (by decide) (fun c_45 => ?_) (fun c_45 => ?_)
        · skip
          refine g_iconst E 0 dX3_wouldDrift_52 (by decide) ?_
          subst hv2_
          subst hv1_
          exact RET 53 _ 0 _ dX3_wouldDrift_53 rfl (by rw [r_X3_wouldDrift, if_pos c_11, if_pos c_19, if_neg c_30, if_pos c_45]) rfl
        · skip
          refine g_iconst E 1 dX3_wouldDrift_48 (by decide) ?_
          refine g_goto E 53 dX3_wouldDrift_49 (by decide) ?_
          subst hv2_
          subst hv1_
          exact RET 53 _ 1 _ dX3_wouldDrift_53 rfl (by rw [r_X3_wouldDrift, if_pos c_11, if_pos c_19, if_neg c_30, if_neg c_45]) rfl
set_option maxHeartbeats 1000000 in
set_option maxRecDepth 100000 in
theorem t_X3_wouldDrift (d : gD) (a : Nat → Nat) (x : Int32) (y : Int32) (S : SS)  : gMi d yX3_wouldDrift cX3_wouldDrift 4 (some .boolean) R_X3_wouldDrift [.ref (a 0), .int x, .int y] (SK d a S) (fun r_ u_ => r_ = r_X3_wouldDrift x y S ∧ u_ = SK d a S) :=
  g_met_i RX3 rfl (by decide +kernel) (Nat.le_of_ble_eq_true rfl) [(0, .ref (a 0)), (1, .int x), (2, .int y)] rfl (fun X E RET => s_X3_wouldDrift_0 d a x y S  E (fun pc_ lv_ v_ u_ h1_ h2_ h3_ h4_ => RET pc_ lv_ v_ u_ h1_ h2_ ⟨h3_, h4_⟩))
abbrev R_X3_leanOf : Room := { frames := 1, cells := 0, slots := 0, locals := 21 }
def r_X3_leanOf (off : Int32) (S : SS) : Int32 := if 0 < ((iabs off) - (S.1 9)) then (if off < 0 then (-(imin 100 (r_X4_quotient (((iabs off) - (S.1 9)) * 100) ((S.2.1 3) - (S.1 9))))) else (imin 100 (r_X4_quotient (((iabs off) - (S.1 9)) * 100) ((S.2.1 3) - (S.1 9))))) else 0
set_option maxHeartbeats 1000000 in
set_option maxRecDepth 100000 in
theorem s_X3_leanOf_0 (d : gD) (a : Nat → Nat) (off : Int32) (S : SS)   {X : gX} (E : gE d X RX3 cX3_leanOf 4 R_X3_leanOf) (RET : ∀ (pc_ : Nat) (lv_ : List (Nat × Value)) (v_ : Int32) (u_ : va_W), decode cX3_leanOf pc_ = .ok (.ireturn, 1) → narrow .int (.int v_) = .int v_ → v_ = r_X3_leanOf off S → u_ = SK d a S → G d X u_ R_X3_leanOf.cells R_X3_leanOf.slots pc_ lv_ [.int v_]) : G d X (SK d a S) 0 0 0 [(0, .ref (a 0)), (1, .int off)] [] := by
  refine g_iload_n E 1 dX3_leanOf_0 rfl rfl ?_
  refine g_abs E ml_X3_86 (ok_le rfl) (ok_le rfl) (ok_le rfl) (ok_le rfl) dX3_leanOf_1 ?_
  refine g_top (b := iabs off) rfl ?_
  refine g_aload_n E 0 dX3_leanOf_4 rfl rfl ?_
  refine g_get E (ci := 3) inlX3 4 rfl rfl 4 (by decide) fl_X3_37 rfl (.int (S.1 9)) rfl dX3_leanOf_5 ?_
  refine g_isub E dX3_leanOf_8 ?_
  refine g_istore_n E (lv' := [(2, .int ((iabs off) - (S.1 9))), (0, .ref (a 0)), (1, .int off)]) dX3_leanOf_9 rfl (by decide) rfl ?_
  refine g_iload_n E 0 dX3_leanOf_10 rfl rfl ?_
  refine g_ifgt E 16 dX3_leanOf_11 (by decide) (fun c_11 => ?_) (fun c_11 => ?_)
  · skip
    refine g_bipush E 100 dX3_leanOf_16 (by decide) ?_
    refine g_iload_n E 0 dX3_leanOf_18 rfl rfl ?_
    refine g_bipush E 100 dX3_leanOf_19 (by decide) ?_
    refine g_imul E dX3_leanOf_21 ?_
    refine g_aload_n E 1 dX3_leanOf_22 rfl rfl ?_
    refine g_get E (ci := 3) inlX3 4 rfl rfl 0 (by decide) fl_X3_18 rfl (.ref (a 1)) rfl dX3_leanOf_23 ?_
    refine g_iconst E 3 dX3_leanOf_26 (by decide) ?_
    refine g_iald E 5 rfl rfl 3 rfl (by decide) (by decide) dX3_leanOf_27 ?_
    refine g_aload_n E 1 dX3_leanOf_28 rfl rfl ?_
    refine g_get E (ci := 3) inlX3 4 rfl rfl 4 (by decide) fl_X3_37 rfl (.int (S.1 9)) rfl dX3_leanOf_29 ?_
    refine g_isub E dX3_leanOf_32 ?_
    refine g_callSNp E gc_X4_quotient (List.mem_of_getElem? (i := 8) rfl) (t_X4_quotient d (((iabs off) - (S.1 9)) * 100) ((S.2.1 3) - (S.1 9)) ) rfl rfl rfl (ok_le rfl) ⟨ok_le rfl, ok_le rfl, ok_le rfl, ok_le rfl⟩ rfl rfl dX3_leanOf_33 ?_
    refine g_nm (fun v1_ hv1_ => ?_)
    refine g_min E ml_X3_132 (ok_le rfl) (ok_le rfl) (ok_le rfl) (ok_le rfl) dX3_leanOf_36 ?_
    refine g_top (b := imin 100 v1_) rfl ?_
    refine g_istore_n E (lv' := [(3, .int (imin 100 v1_)), (2, .int ((iabs off) - (S.1 9))), (0, .ref (a 0)), (1, .int off)]) dX3_leanOf_39 rfl (by decide) rfl ?_
    refine g_iload_n E 3 dX3_leanOf_40 rfl rfl ?_
    refine g_ifge E 49 dX3_leanOf_41 (by decide) (fun c_41 => ?_) (fun c_41 => ?_)
    · skip
      refine g_iload_n E 0 dX3_leanOf_49 rfl rfl ?_
      subst hv1_
      exact RET 50 _ (imin 100 (r_X4_quotient (((iabs off) - (S.1 9)) * 100) ((S.2.1 3) - (S.1 9)))) _ dX3_leanOf_50 rfl (by rw [r_X3_leanOf, if_pos c_11, if_neg c_41]) rfl
    · skip
      refine g_iload_n E 0 dX3_leanOf_44 rfl rfl ?_
      refine g_ineg E dX3_leanOf_45 ?_
      refine g_goto E 50 dX3_leanOf_46 (by decide) ?_
      subst hv1_
      exact RET 50 _ (-(imin 100 (r_X4_quotient (((iabs off) - (S.1 9)) * 100) ((S.2.1 3) - (S.1 9))))) _ dX3_leanOf_50 rfl (by rw [r_X3_leanOf, if_pos c_11, if_pos c_41]) rfl
  · skip
    refine g_iconst E 0 dX3_leanOf_14 (by decide) ?_
    exact RET 15 _ 0 _ dX3_leanOf_15 rfl (by rw [r_X3_leanOf, if_neg c_11]) rfl
set_option maxHeartbeats 1000000 in
set_option maxRecDepth 100000 in
theorem t_X3_leanOf (d : gD) (a : Nat → Nat) (off : Int32) (S : SS)  : gMi d yX3_leanOf cX3_leanOf 4 (some .int) R_X3_leanOf [.ref (a 0), .int off] (SK d a S) (fun r_ u_ => r_ = r_X3_leanOf off S ∧ u_ = SK d a S) :=
  g_met_i RX3 rfl (by decide +kernel) (Nat.le_of_ble_eq_true rfl) [(0, .ref (a 0)), (1, .int off)] rfl (fun X E RET => s_X3_leanOf_0 d a off S  E (fun pc_ lv_ v_ u_ h1_ h2_ h3_ h4_ => RET pc_ lv_ v_ u_ h1_ h2_ ⟨h3_, h4_⟩))
end
section
abbrev R_X3_tellingAt : Room := { frames := 3, cells := 0, slots := 0, locals := 65 }
def r_X3_tellingAt (x : Int32) (y : Int32) (S : SS) : Int32 := if (S.1 9) < (r_X3_farthestOff x y S) then (if (r_X3_wouldDrift x y S) = 0 then (if (S.2.1 4) < ((iabs (r_X3_leanOf (x - (r_X3_restPlaceX S)) S)) + (iabs (r_X3_leanOf (y - (r_X3_restPlaceY S)) S))) then (r_X4_packed (r_X4_quotient ((r_X3_leanOf (x - (r_X3_restPlaceX S)) S) * (S.2.1 4)) ((iabs (r_X3_leanOf (x - (r_X3_restPlaceX S)) S)) + (iabs (r_X3_leanOf (y - (r_X3_restPlaceY S)) S)))) (r_X4_quotient ((r_X3_leanOf (y - (r_X3_restPlaceY S)) S) * (S.2.1 4)) ((iabs (r_X3_leanOf (x - (r_X3_restPlaceX S)) S)) + (iabs (r_X3_leanOf (y - (r_X3_restPlaceY S)) S))))) else (r_X4_packed (r_X3_leanOf (x - (r_X3_restPlaceX S)) S) (r_X3_leanOf (y - (r_X3_restPlaceY S)) S))) else (r_X4_packed 0 0)) else (r_X4_packed 0 0)
set_option maxHeartbeats 1000000 in
set_option maxRecDepth 100000 in
theorem s_X3_tellingAt_0 (d : gD) (a : Nat → Nat) (x : Int32) (y : Int32) (S : SS)   {X : gX} (E : gE d X RX3 cX3_tellingAt 7 R_X3_tellingAt) (RET : ∀ (pc_ : Nat) (lv_ : List (Nat × Value)) (v_ : Int32) (u_ : va_W), decode cX3_tellingAt pc_ = .ok (.ireturn, 1) → narrow .int (.int v_) = .int v_ → v_ = r_X3_tellingAt x y S → u_ = SK d a S → G d X u_ R_X3_tellingAt.cells R_X3_tellingAt.slots pc_ lv_ [.int v_]) : G d X (SK d a S) 0 0 0 [(0, .ref (a 0)), (1, .int x), (2, .int y)] [] := by
  refine g_aload_n E 0 dX3_tellingAt_0 rfl rfl ?_
  refine g_iload_n E 1 dX3_tellingAt_1 rfl rfl ?_
  refine g_iload_n E 2 dX3_tellingAt_2 rfl rfl ?_
  refine g_callVi0 E gc_X3_farthestOff ml_X3_114 (t_X3_farthestOff d a x y S ) rfl rfl (ci := 3) 4 rfl rfl rfl rfl (ok_le rfl) ⟨ok_le rfl, ok_le rfl, ok_le rfl, ok_le rfl⟩ rfl rfl dX3_tellingAt_3 ?_
  refine g_nm (fun v1_ hv1_ => ?_)
  refine g_aload_n E 0 dX3_tellingAt_6 rfl rfl ?_
  refine g_get E (ci := 3) inlX3 4 rfl rfl 4 (by decide) fl_X3_37 rfl (.int (S.1 9)) rfl dX3_tellingAt_7 ?_
  refine g_icmple E 22 dX3_tellingAt_10 (by decide) (fun c_10 => ?_) (fun c_10 => ?_)
  · skip
    refine g_iconst E 0 dX3_tellingAt_22 (by decide) ?_
    refine g_iconst E 0 dX3_tellingAt_23 (by decide) ?_
    refine g_callSNp E gc_X4_packed (List.mem_of_getElem? (i := 7) rfl) (t_X4_packed d 0 0 ) rfl rfl rfl (ok_le rfl) ⟨ok_le rfl, ok_le rfl, ok_le rfl, ok_le rfl⟩ rfl rfl dX3_tellingAt_24 ?_
    refine g_nm (fun v2_ hv2_ => ?_)
    subst hv2_
    subst hv1_
    exact RET 27 _ (r_X4_packed 0 0) _ dX3_tellingAt_27 rfl (by rw [r_X3_tellingAt, if_neg c_10]) rfl
  · skip
    refine g_aload_n E 0 dX3_tellingAt_13 rfl rfl ?_
    refine g_iload_n E 1 dX3_tellingAt_14 rfl rfl ?_
    refine g_iload_n E 2 dX3_tellingAt_15 rfl rfl ?_
    refine g_callVi0 E gc_X3_wouldDrift ml_X3_120 (t_X3_wouldDrift d a x y S ) rfl rfl (ci := 3) 4 rfl rfl rfl rfl (ok_le rfl) ⟨ok_le rfl, ok_le rfl, ok_le rfl, ok_le rfl⟩ rfl rfl dX3_tellingAt_16 ?_
    refine g_nm (fun v3_ hv3_ => ?_)
    refine g_ifeq E 28 dX3_tellingAt_19 (by decide) (fun c_19 => ?_) (fun c_19 => ?_)
    · skip
      refine g_aload_n E 0 dX3_tellingAt_28 rfl rfl ?_
      refine g_iload_n E 1 dX3_tellingAt_29 rfl rfl ?_
      refine g_aload_n E 0 dX3_tellingAt_30 rfl rfl ?_
      refine g_callVi0 E gc_X3_restPlaceX ml_X3_103 (t_X3_restPlaceX d a S ) rfl rfl (ci := 3) 4 rfl rfl rfl rfl (ok_le rfl) ⟨ok_le rfl, ok_le rfl, ok_le rfl, ok_le rfl⟩ rfl rfl dX3_tellingAt_31 ?_
      refine g_nm (fun v4_ hv4_ => ?_)
      refine g_isub E dX3_tellingAt_34 ?_
      refine g_callVi0 E gc_X3_leanOf ml_X3_126 (t_X3_leanOf d a (x - v4_) S ) rfl rfl (ci := 3) 4 rfl rfl rfl rfl (ok_le rfl) ⟨ok_le rfl, ok_le rfl, ok_le rfl, ok_le rfl⟩ rfl rfl dX3_tellingAt_35 ?_
      refine g_nm (fun v5_ hv5_ => ?_)
      refine g_istore_n E (lv' := [(3, .int v5_), (0, .ref (a 0)), (1, .int x), (2, .int y)]) dX3_tellingAt_38 rfl (by decide) rfl ?_
      refine g_aload_n E 1 dX3_tellingAt_39 rfl rfl ?_
      refine g_iload_n E 3 dX3_tellingAt_40 rfl rfl ?_
      refine g_aload_n E 1 dX3_tellingAt_41 rfl rfl ?_
      refine g_callVi0 E gc_X3_restPlaceY ml_X3_107 (t_X3_restPlaceY d a S ) rfl rfl (ci := 3) 4 rfl rfl rfl rfl (ok_le rfl) ⟨ok_le rfl, ok_le rfl, ok_le rfl, ok_le rfl⟩ rfl rfl dX3_tellingAt_42 ?_
      refine g_nm (fun v6_ hv6_ => ?_)
      refine g_isub E dX3_tellingAt_45 ?_
      refine g_callVi0 E gc_X3_leanOf ml_X3_126 (t_X3_leanOf d a (y - v6_) S ) rfl rfl (ci := 3) 4 rfl rfl rfl rfl (ok_le rfl) ⟨ok_le rfl, ok_le rfl, ok_le rfl, ok_le rfl⟩ rfl rfl dX3_tellingAt_46 ?_
      refine g_nm (fun v7_ hv7_ => ?_)
      refine g_istore E (lv' := [(4, .int v7_), (3, .int v5_), (0, .ref (a 0)), (1, .int x), (2, .int y)]) dX3_tellingAt_49 (by decide) rfl ?_
      refine g_iload_n E 1 dX3_tellingAt_51 rfl rfl ?_
      refine g_abs E ml_X3_86 (ok_le rfl) (ok_le rfl) (ok_le rfl) (ok_le rfl) dX3_tellingAt_52 ?_
      refine g_top (b := iabs v5_) rfl ?_
      refine g_iload E 0 dX3_tellingAt_55 rfl ?_
      refine g_abs E ml_X3_86 (ok_le rfl) (ok_le rfl) (ok_le rfl) (ok_le rfl) dX3_tellingAt_57 ?_
      refine g_top (b := iabs v7_) rfl ?_
      refine g_iadd E dX3_tellingAt_60 ?_
      refine g_istore E (lv' := [(5, .int ((iabs v5_) + (iabs v7_))), (4, .int v7_), (3, .int v5_), (0, .ref (a 0)), (1, .int x), (2, .int y)]) dX3_tellingAt_61 (by decide) rfl ?_
      refine g_aload_n E 3 dX3_tellingAt_63 rfl rfl ?_
      refine g_get E (ci := 3) inlX3 4 rfl rfl 0 (by decide) fl_X3_18 rfl (.ref (a 1)) rfl dX3_tellingAt_64 ?_
      refine g_iconst E 4 dX3_tellingAt_67 (by decide) ?_
      refine g_iald E 5 rfl rfl 4 rfl (by decide) (by decide) dX3_tellingAt_68 ?_
      refine g_istore E (lv' := [(6, .int (S.2.1 4)), (5, .int ((iabs v5_) + (iabs v7_))), (4, .int v7_), (3, .int v5_), (0, .ref (a 0)), (1, .int x), (2, .int y)]) dX3_tellingAt_69 (by decide) rfl ?_
      refine g_iload E 1 dX3_tellingAt_71 rfl ?_
      refine g_iload E 0 dX3_tellingAt_73 rfl ?_
      refine g_icmple E 101 dX3_tellingAt_75 (by decide) (fun c_75 => ?_) (fun c_75 => ?_)
      · skip
        refine g_iload_n E 3 dX3_tellingAt_101 rfl rfl ?_
        refine g_iload E 2 dX3_tellingAt_102 rfl ?_
        refine g_callSNp E gc_X4_packed (List.mem_of_getElem? (i := 7) rfl) (t_X4_packed d v5_ v7_ ) rfl rfl rfl (ok_le rfl) ⟨ok_le rfl, ok_le rfl, ok_le rfl, ok_le rfl⟩ rfl rfl dX3_tellingAt_104 ?_
        refine g_nm (fun v8_ hv8_ => ?_)
        subst hv8_
        subst hv7_
        subst hv6_
        subst hv5_
        subst hv4_
        subst hv3_
        subst hv1_
        exact RET 107 _ (r_X4_packed (r_X3_leanOf (x - (r_X3_restPlaceX S)) S) (r_X3_leanOf (y - (r_X3_restPlaceY S)) S)) _ dX3_tellingAt_107 rfl (by rw [r_X3_tellingAt, if_pos c_10, if_pos c_19, if_neg c_75]) rfl
      · skip
        refine g_iload_n E 3 dX3_tellingAt_78 rfl rfl ?_
        refine g_iload E 0 dX3_tellingAt_79 rfl ?_
        refine g_imul E dX3_tellingAt_81 ?_
        refine g_iload E 1 dX3_tellingAt_82 rfl ?_
        refine g_callSNp E gc_X4_quotient (List.mem_of_getElem? (i := 8) rfl) (t_X4_quotient d (v5_ * (S.2.1 4)) ((iabs v5_) + (iabs v7_)) ) rfl rfl rfl (ok_le rfl) ⟨ok_le rfl, ok_le rfl, ok_le rfl, ok_le rfl⟩ rfl rfl dX3_tellingAt_84 ?_
        refine g_nm (fun v9_ hv9_ => ?_)
        refine g_iload E 2 dX3_tellingAt_87 rfl ?_
        refine g_iload E 0 dX3_tellingAt_89 rfl ?_
        refine g_imul E dX3_tellingAt_91 ?_
        refine g_iload E 1 dX3_tellingAt_92 rfl ?_
        refine g_callSNp E gc_X4_quotient (List.mem_of_getElem? (i := 8) rfl) (t_X4_quotient d (v7_ * (S.2.1 4)) ((iabs v5_) + (iabs v7_)) ) rfl rfl rfl (ok_le rfl) ⟨ok_le rfl, ok_le rfl, ok_le rfl, ok_le rfl⟩ rfl rfl dX3_tellingAt_94 ?_
        refine g_nm (fun v10_ hv10_ => ?_)
        refine g_callSNp E gc_X4_packed (List.mem_of_getElem? (i := 7) rfl) (t_X4_packed d v9_ v10_ ) rfl rfl rfl (ok_le rfl) ⟨ok_le rfl, ok_le rfl, ok_le rfl, ok_le rfl⟩ rfl rfl dX3_tellingAt_97 ?_
        refine g_nm (fun v11_ hv11_ => ?_)
        subst hv11_
        subst hv10_
        subst hv9_
        subst hv7_
        subst hv6_
        subst hv5_
        subst hv4_
        subst hv3_
        subst hv1_
        exact RET 100 _ (r_X4_packed (r_X4_quotient ((r_X3_leanOf (x - (r_X3_restPlaceX S)) S) * (S.2.1 4)) ((iabs (r_X3_leanOf (x - (r_X3_restPlaceX S)) S)) + (iabs (r_X3_leanOf (y - (r_X3_restPlaceY S)) S)))) (r_X4_quotient ((r_X3_leanOf (y - (r_X3_restPlaceY S)) S) * (S.2.1 4)) ((iabs (r_X3_leanOf (x - (r_X3_restPlaceX S)) S)) + (iabs (r_X3_leanOf (y - (r_X3_restPlaceY S)) S))))) _ dX3_tellingAt_100 rfl (by rw [r_X3_tellingAt, if_pos c_10, if_pos c_19, if_pos c_75]) rfl
    · skip
      refine g_iconst E 0 dX3_tellingAt_22 (by decide) ?_
      refine g_iconst E 0 dX3_tellingAt_23 (by decide) ?_
      refine g_callSNp E gc_X4_packed (List.mem_of_getElem? (i := 7) rfl) (t_X4_packed d 0 0 ) rfl rfl rfl (ok_le rfl) ⟨ok_le rfl, ok_le rfl, ok_le rfl, ok_le rfl⟩ rfl rfl dX3_tellingAt_24 ?_
      refine g_nm (fun v12_ hv12_ => ?_)
      subst hv12_
      subst hv3_
      subst hv1_
      exact RET 27 _ (r_X4_packed 0 0) _ dX3_tellingAt_27 rfl (by rw [r_X3_tellingAt, if_pos c_10, if_neg c_19]) rfl
set_option maxHeartbeats 1000000 in
set_option maxRecDepth 100000 in
theorem t_X3_tellingAt (d : gD) (a : Nat → Nat) (x : Int32) (y : Int32) (S : SS)  : gMi d yX3_tellingAt cX3_tellingAt 7 (some .int) R_X3_tellingAt [.ref (a 0), .int x, .int y] (SK d a S) (fun r_ u_ => r_ = r_X3_tellingAt x y S ∧ u_ = SK d a S) :=
  g_met_i RX3 rfl (by decide +kernel) (Nat.le_of_ble_eq_true rfl) [(0, .ref (a 0)), (1, .int x), (2, .int y)] rfl (fun X E RET => s_X3_tellingAt_0 d a x y S  E (fun pc_ lv_ v_ u_ h1_ h2_ h3_ h4_ => RET pc_ lv_ v_ u_ h1_ h2_ ⟨h3_, h4_⟩))
abbrev R_X3_telling : Room := { frames := 1, cells := 0, slots := 0, locals := 21 }
def r_X3_telling (S : SS) : Int32 := (r_X4_packed (S.1 14) (S.1 15))
set_option maxHeartbeats 1000000 in
set_option maxRecDepth 100000 in
theorem s_X3_telling_0 (d : gD) (a : Nat → Nat) (S : SS)   {X : gX} (E : gE d X RX3 cX3_telling 1 R_X3_telling) (RET : ∀ (pc_ : Nat) (lv_ : List (Nat × Value)) (v_ : Int32) (u_ : va_W), decode cX3_telling pc_ = .ok (.ireturn, 1) → narrow .int (.int v_) = .int v_ → v_ = r_X3_telling S → u_ = SK d a S → G d X u_ R_X3_telling.cells R_X3_telling.slots pc_ lv_ [.int v_]) : G d X (SK d a S) 0 0 0 [(0, .ref (a 0))] [] := by
  refine g_aload_n E 0 dX3_telling_0 rfl rfl ?_
  refine g_get E (ci := 3) inlX3 4 rfl rfl 5 (by decide) fl_X3_50 rfl (.int (S.1 14)) rfl dX3_telling_1 ?_
  refine g_aload_n E 0 dX3_telling_4 rfl rfl ?_
  refine g_get E (ci := 3) inlX3 4 rfl rfl 6 (by decide) fl_X3_53 rfl (.int (S.1 15)) rfl dX3_telling_5 ?_
  refine g_callSNp E gc_X4_packed (List.mem_of_getElem? (i := 7) rfl) (t_X4_packed d (S.1 14) (S.1 15) ) rfl rfl rfl (ok_le rfl) ⟨ok_le rfl, ok_le rfl, ok_le rfl, ok_le rfl⟩ rfl rfl dX3_telling_8 ?_
  refine g_nm (fun v1_ hv1_ => ?_)
  subst hv1_
  exact RET 11 _ (r_X4_packed (S.1 14) (S.1 15)) _ dX3_telling_11 rfl (by rw [r_X3_telling]) rfl
set_option maxHeartbeats 1000000 in
set_option maxRecDepth 100000 in
theorem t_X3_telling (d : gD) (a : Nat → Nat) (S : SS)  : gMi d yX3_telling cX3_telling 1 (some .int) R_X3_telling [.ref (a 0)] (SK d a S) (fun r_ u_ => r_ = r_X3_telling S ∧ u_ = SK d a S) :=
  g_met_i RX3 rfl (by decide +kernel) (Nat.le_of_ble_eq_true rfl) [(0, .ref (a 0))] rfl (fun X E RET => s_X3_telling_0 d a S  E (fun pc_ lv_ v_ u_ h1_ h2_ h3_ h4_ => RET pc_ lv_ v_ u_ h1_ h2_ ⟨h3_, h4_⟩))
abbrev R_X3_tellsSomething : Room := { frames := 0, cells := 0, slots := 0, locals := 0 }
def r_X3_tellsSomething (S : SS) : Int32 := if (S.1 14) = 0 then (if (S.1 15) = 0 then 0 else 1) else 1
set_option maxHeartbeats 1000000 in
set_option maxRecDepth 100000 in
theorem s_X3_tellsSomething_0 (d : gD) (a : Nat → Nat) (S : SS)   {X : gX} (E : gE d X RX3 cX3_tellsSomething 1 R_X3_tellsSomething) (RET : ∀ (pc_ : Nat) (lv_ : List (Nat × Value)) (v_ : Int32) (u_ : va_W), decode cX3_tellsSomething pc_ = .ok (.ireturn, 1) → narrow .boolean (.int v_) = .int v_ → v_ = r_X3_tellsSomething S → u_ = SK d a S → G d X u_ R_X3_tellsSomething.cells R_X3_tellsSomething.slots pc_ lv_ [.int v_]) : G d X (SK d a S) 0 0 0 [(0, .ref (a 0))] [] := by
  refine g_aload_n E 0 dX3_tellsSomething_0 rfl rfl ?_
  refine g_get E (ci := 3) inlX3 4 rfl rfl 5 (by decide) fl_X3_50 rfl (.int (S.1 14)) rfl dX3_tellsSomething_1 ?_
  refine g_ifne E 14 dX3_tellsSomething_4 (by decide) (fun c_4 => ?_) (fun c_4 => ?_)
  · skip
    refine g_iconst E 1 dX3_tellsSomething_14 (by decide) ?_
    refine g_goto E 19 dX3_tellsSomething_15 (by decide) ?_
    exact RET 19 _ 1 _ dX3_tellsSomething_19 rfl (by rw [r_X3_tellsSomething, if_neg c_4]) rfl
  · skip
    refine g_aload_n E 0 dX3_tellsSomething_7 rfl rfl ?_
    refine g_get E (ci := 3) inlX3 4 rfl rfl 6 (by decide) fl_X3_53 rfl (.int (S.1 15)) rfl dX3_tellsSomething_8 ?_
    refine g_ifeq E 18 dX3_tellsSomething_11 (by decide) (fun c_11 => ?_) (fun c_11 => ?_)
    · skip
      refine g_iconst E 0 dX3_tellsSomething_18 (by decide) ?_
      exact RET 19 _ 0 _ dX3_tellsSomething_19 rfl (by rw [r_X3_tellsSomething, if_pos c_4, if_pos c_11]) rfl
    · skip
      refine g_iconst E 1 dX3_tellsSomething_14 (by decide) ?_
      refine g_goto E 19 dX3_tellsSomething_15 (by decide) ?_
      exact RET 19 _ 1 _ dX3_tellsSomething_19 rfl (by rw [r_X3_tellsSomething, if_pos c_4, if_neg c_11]) rfl
set_option maxHeartbeats 1000000 in
set_option maxRecDepth 100000 in
theorem t_X3_tellsSomething (d : gD) (a : Nat → Nat) (S : SS)  : gMi d yX3_tellsSomething cX3_tellsSomething 1 (some .boolean) R_X3_tellsSomething [.ref (a 0)] (SK d a S) (fun r_ u_ => r_ = r_X3_tellsSomething S ∧ u_ = SK d a S) :=
  g_met_i RX3 rfl (by decide +kernel) (Nat.le_of_ble_eq_true rfl) [(0, .ref (a 0))] rfl (fun X E RET => s_X3_tellsSomething_0 d a S  E (fun pc_ lv_ v_ u_ h1_ h2_ h3_ h4_ => RET pc_ lv_ v_ u_ h1_ h2_ ⟨h3_, h4_⟩))
abbrev R_X3_driftTo : Room := { frames := 0, cells := 0, slots := 0, locals := 0 }
def c_X3_driftTo (x : Int32) (y : Int32) (S : SS) : SS := (upd (upd (upd (upd S.1 7 (16 * x)) 8 (16 * y)) 12 0) 17 ((S.1 17) + 1), S.2)
set_option maxHeartbeats 1000000 in
set_option maxRecDepth 100000 in
theorem s_X3_driftTo_0 (d : gD) (a : Nat → Nat) (x : Int32) (y : Int32) (S : SS)   {X : gX} (E : gE d X RX3 cX3_driftTo 3 R_X3_driftTo) (RET : ∀ (pc_ : Nat) (lv_ : List (Nat × Value)) (u_ : va_W), decode cX3_driftTo pc_ = .ok (.return_, 1) → u_ = SK d a (c_X3_driftTo x y S) → G d X u_ R_X3_driftTo.cells R_X3_driftTo.slots pc_ lv_ []) : G d X (SK d a S) 0 0 0 [(0, .ref (a 0)), (1, .int x), (2, .int y)] [] := by
  refine g_aload_n E 0 dX3_driftTo_0 rfl rfl ?_
  refine g_bipush E 16 dX3_driftTo_1 (by decide) ?_
  refine g_iload_n E 1 dX3_driftTo_3 rfl rfl ?_
  refine g_imul E dX3_driftTo_4 ?_
  refine g_put E (ci := 3) inlX3 4 rfl rfl 2 (by decide) tyX3 tyX3_ok nmX3 fl_X3_30 rfl rfl rfl rfl (ok_lt rfl) (ws' := SK d a (upd S.1 7 (16 * x), S.2)) rfl dX3_driftTo_5 ?_
  refine g_aload_n E 0 dX3_driftTo_8 rfl rfl ?_
  refine g_bipush E 16 dX3_driftTo_9 (by decide) ?_
  refine g_iload_n E 2 dX3_driftTo_11 rfl rfl ?_
  refine g_imul E dX3_driftTo_12 ?_
  refine g_put E (ci := 3) inlX3 4 rfl rfl 3 (by decide) tyX3 tyX3_ok nmX3 fl_X3_34 rfl rfl rfl rfl (ok_lt rfl) (ws' := SK d a (upd (upd S.1 7 (16 * x)) 8 (16 * y), S.2)) rfl dX3_driftTo_13 ?_
  refine g_aload_n E 0 dX3_driftTo_16 rfl rfl ?_
  refine g_iconst E 0 dX3_driftTo_17 (by decide) ?_
  refine g_put E (ci := 3) inlX3 4 rfl rfl 9 (by decide) tyX3 tyX3_ok nmX3 fl_X3_62 rfl rfl rfl rfl (ok_lt rfl) (ws' := SK d a (upd (upd (upd S.1 7 (16 * x)) 8 (16 * y)) 12 0, S.2)) rfl dX3_driftTo_18 ?_
  refine g_aload_n E 0 dX3_driftTo_21 rfl rfl ?_
  refine g_dup E dX3_driftTo_22 rfl ?_
  refine g_get E (ci := 3) inlX3 4 rfl rfl 13 (by decide) fl_X3_74 rfl (.int (S.1 17)) rfl dX3_driftTo_23 ?_
  refine g_iconst E 1 dX3_driftTo_26 (by decide) ?_
  refine g_iadd E dX3_driftTo_27 ?_
  refine g_put E (ci := 3) inlX3 4 rfl rfl 13 (by decide) tyX3 tyX3_ok nmX3 fl_X3_74 rfl rfl rfl rfl (ok_lt rfl) (ws' := SK d a (upd (upd (upd (upd S.1 7 (16 * x)) 8 (16 * y)) 12 0) 17 ((S.1 17) + 1), S.2)) rfl dX3_driftTo_28 ?_
  exact RET 31 _ _ dX3_driftTo_31 (by rw [c_X3_driftTo])
set_option maxHeartbeats 1000000 in
set_option maxRecDepth 100000 in
theorem t_X3_driftTo (d : gD) (a : Nat → Nat) (x : Int32) (y : Int32) (S : SS)  : gMv d yX3_driftTo cX3_driftTo 3 R_X3_driftTo [.ref (a 0), .int x, .int y] (SK d a S) (fun u_ => u_ = SK d a (c_X3_driftTo x y S)) :=
  g_met_v RX3 rfl (by decide +kernel) (Nat.le_of_ble_eq_true rfl) [(0, .ref (a 0)), (1, .int x), (2, .int y)] rfl (fun X E _ RET => s_X3_driftTo_0 d a x y S  E (fun pc_ lv_ u_ h1_ h2_ => RET pc_ lv_ u_ h1_ h2_))
abbrev R_X3_fitZone : Room := { frames := 1, cells := 0, slots := 0, locals := 14 }
def c_X3_fitZone (off : Int32) (S : SS) : SS := if (S.1 9) < (2 * off) then (upd S.1 9 (imin ((S.1 9) + 1) ((S.2.1 1) + (S.2.1 2))), S.2) else (if (S.1 9) < (4 * off) then S else (upd S.1 9 (imax ((S.1 9) - 1) (S.2.1 1)), S.2))
set_option maxHeartbeats 1000000 in
set_option maxRecDepth 100000 in
theorem s_X3_fitZone_0 (d : gD) (a : Nat → Nat) (off : Int32) (S : SS)   {X : gX} (E : gE d X RX3 cX3_fitZone 2 R_X3_fitZone) (RET : ∀ (pc_ : Nat) (lv_ : List (Nat × Value)) (u_ : va_W), decode cX3_fitZone pc_ = .ok (.return_, 1) → u_ = SK d a (c_X3_fitZone off S) → G d X u_ R_X3_fitZone.cells R_X3_fitZone.slots pc_ lv_ []) : G d X (SK d a S) 0 0 0 [(0, .ref (a 0)), (1, .int off)] [] := by
  refine g_iconst E 2 dX3_fitZone_0 (by decide) ?_
  refine g_iload_n E 1 dX3_fitZone_1 rfl rfl ?_
  refine g_imul E dX3_fitZone_2 ?_
  refine g_aload_n E 0 dX3_fitZone_3 rfl rfl ?_
  refine g_get E (ci := 3) inlX3 4 rfl rfl 4 (by decide) fl_X3_37 rfl (.int (S.1 9)) rfl dX3_fitZone_4 ?_
  refine g_icmple E 39 dX3_fitZone_7 (by decide) (fun c_7 => ?_) (fun c_7 => ?_)
  · skip
    refine g_iconst E 4 dX3_fitZone_39 (by decide) ?_
    refine g_iload_n E 1 dX3_fitZone_40 rfl rfl ?_
    refine g_imul E dX3_fitZone_41 ?_
    refine g_aload_n E 0 dX3_fitZone_42 rfl rfl ?_
    refine g_get E (ci := 3) inlX3 4 rfl rfl 4 (by decide) fl_X3_37 rfl (.int (S.1 9)) rfl dX3_fitZone_43 ?_
    refine g_icmpgt E 68 dX3_fitZone_46 (by decide) (fun c_46 => ?_) (fun c_46 => ?_)
    · skip
      exact RET 68 _ _ dX3_fitZone_68 (by rw [c_X3_fitZone, if_neg c_7, if_pos c_46])
    · skip
      refine g_aload_n E 0 dX3_fitZone_49 rfl rfl ?_
      refine g_aload_n E 0 dX3_fitZone_50 rfl rfl ?_
      refine g_get E (ci := 3) inlX3 4 rfl rfl 4 (by decide) fl_X3_37 rfl (.int (S.1 9)) rfl dX3_fitZone_51 ?_
      refine g_iconst E 1 dX3_fitZone_54 (by decide) ?_
      refine g_isub E dX3_fitZone_55 ?_
      refine g_aload_n E 0 dX3_fitZone_56 rfl rfl ?_
      refine g_get E (ci := 3) inlX3 4 rfl rfl 0 (by decide) fl_X3_18 rfl (.ref (a 1)) rfl dX3_fitZone_57 ?_
      refine g_iconst E 1 dX3_fitZone_60 (by decide) ?_
      refine g_iald E 5 rfl rfl 1 rfl (by decide) (by decide) dX3_fitZone_61 ?_
      refine g_max E ml_X3_110 (ok_le rfl) (ok_le rfl) (ok_le rfl) (ok_le rfl) dX3_fitZone_62 ?_
      refine g_top (b := imax ((S.1 9) - 1) (S.2.1 1)) rfl ?_
      refine g_put E (ci := 3) inlX3 4 rfl rfl 4 (by decide) tyX3 tyX3_ok nmX3 fl_X3_37 rfl rfl rfl rfl (ok_lt rfl) (ws' := SK d a (upd S.1 9 (imax ((S.1 9) - 1) (S.2.1 1)), S.2)) rfl dX3_fitZone_65 ?_
      exact RET 68 _ _ dX3_fitZone_68 (by rw [c_X3_fitZone, if_neg c_7, if_neg c_46])
  · skip
    refine g_aload_n E 0 dX3_fitZone_10 rfl rfl ?_
    refine g_aload_n E 0 dX3_fitZone_11 rfl rfl ?_
    refine g_get E (ci := 3) inlX3 4 rfl rfl 4 (by decide) fl_X3_37 rfl (.int (S.1 9)) rfl dX3_fitZone_12 ?_
    refine g_iconst E 1 dX3_fitZone_15 (by decide) ?_
    refine g_iadd E dX3_fitZone_16 ?_
    refine g_aload_n E 0 dX3_fitZone_17 rfl rfl ?_
    refine g_get E (ci := 3) inlX3 4 rfl rfl 0 (by decide) fl_X3_18 rfl (.ref (a 1)) rfl dX3_fitZone_18 ?_
    refine g_iconst E 1 dX3_fitZone_21 (by decide) ?_
    refine g_iald E 5 rfl rfl 1 rfl (by decide) (by decide) dX3_fitZone_22 ?_
    refine g_aload_n E 0 dX3_fitZone_23 rfl rfl ?_
    refine g_get E (ci := 3) inlX3 4 rfl rfl 0 (by decide) fl_X3_18 rfl (.ref (a 1)) rfl dX3_fitZone_24 ?_
    refine g_iconst E 2 dX3_fitZone_27 (by decide) ?_
    refine g_iald E 5 rfl rfl 2 rfl (by decide) (by decide) dX3_fitZone_28 ?_
    refine g_iadd E dX3_fitZone_29 ?_
    refine g_min E ml_X3_132 (ok_le rfl) (ok_le rfl) (ok_le rfl) (ok_le rfl) dX3_fitZone_30 ?_
    refine g_top (b := imin ((S.1 9) + 1) ((S.2.1 1) + (S.2.1 2))) rfl ?_
    refine g_put E (ci := 3) inlX3 4 rfl rfl 4 (by decide) tyX3 tyX3_ok nmX3 fl_X3_37 rfl rfl rfl rfl (ok_lt rfl) (ws' := SK d a (upd S.1 9 (imin ((S.1 9) + 1) ((S.2.1 1) + (S.2.1 2))), S.2)) rfl dX3_fitZone_33 ?_
    refine g_goto E 68 dX3_fitZone_36 (by decide) ?_
    exact RET 68 _ _ dX3_fitZone_68 (by rw [c_X3_fitZone, if_pos c_7])
set_option maxHeartbeats 1000000 in
set_option maxRecDepth 100000 in
theorem t_X3_fitZone (d : gD) (a : Nat → Nat) (off : Int32) (S : SS)  : gMv d yX3_fitZone cX3_fitZone 2 R_X3_fitZone [.ref (a 0), .int off] (SK d a S) (fun u_ => u_ = SK d a (c_X3_fitZone off S)) :=
  g_met_v RX3 rfl (by decide +kernel) (Nat.le_of_ble_eq_true rfl) [(0, .ref (a 0)), (1, .int off)] rfl (fun X E _ RET => s_X3_fitZone_0 d a off S  E (fun pc_ lv_ u_ h1_ h2_ => RET pc_ lv_ u_ h1_ h2_))
end
section
abbrev R_X3_comeToRest : Room := { frames := 2, cells := 0, slots := 0, locals := 42 }
def j_X3_comeToRest_17_g (x : Int32) (y : Int32) (S : SS) : Nat → Int32 := if (r_X3_tellsSomething S) = 0 then S.1 else (upd S.1 16 ((S.1 16) + 1))
def c_X3_comeToRest_at17 (x : Int32) (y : Int32) (S : SS) : SS := if 0 < ((j_X3_comeToRest_17_g x y S) 13) then (upd (j_X3_comeToRest_17_g x y S) 20 (((j_X3_comeToRest_17_g x y S) 20) + 1), S.2) else (upd (upd (c_X3_fitZone (r_X3_farthestOff x y ((j_X3_comeToRest_17_g x y S), S.2)) ((j_X3_comeToRest_17_g x y S), S.2)).1 7 (((c_X3_fitZone (r_X3_farthestOff x y ((j_X3_comeToRest_17_g x y S), S.2)) ((j_X3_comeToRest_17_g x y S), S.2)).1 7) + (r_X4_quotient ((16 * x) - ((c_X3_fitZone (r_X3_farthestOff x y ((j_X3_comeToRest_17_g x y S), S.2)) ((j_X3_comeToRest_17_g x y S), S.2)).1 7)) ((c_X3_fitZone (r_X3_farthestOff x y ((j_X3_comeToRest_17_g x y S), S.2)) ((j_X3_comeToRest_17_g x y S), S.2)).2.1 0)))) 8 (((c_X3_fitZone (r_X3_farthestOff x y ((j_X3_comeToRest_17_g x y S), S.2)) ((j_X3_comeToRest_17_g x y S), S.2)).1 8) + (r_X4_quotient ((16 * y) - ((c_X3_fitZone (r_X3_farthestOff x y ((j_X3_comeToRest_17_g x y S), S.2)) ((j_X3_comeToRest_17_g x y S), S.2)).1 8)) ((c_X3_fitZone (r_X3_farthestOff x y ((j_X3_comeToRest_17_g x y S), S.2)) ((j_X3_comeToRest_17_g x y S), S.2)).2.1 0))), (c_X3_fitZone (r_X3_farthestOff x y ((j_X3_comeToRest_17_g x y S), S.2)) ((j_X3_comeToRest_17_g x y S), S.2)).2)
def c_X3_comeToRest (x : Int32) (y : Int32) (S : SS) : SS := c_X3_comeToRest_at17 x y S
set_option maxHeartbeats 1000000 in
set_option maxRecDepth 100000 in
theorem s_X3_comeToRest_17 (d : gD) (a : Nat → Nat) (x : Int32) (y : Int32) (S : SS)   {X : gX} (E : gE d X RX3 cX3_comeToRest 3 R_X3_comeToRest) (RET : ∀ (pc_ : Nat) (lv_ : List (Nat × Value)) (u_ : va_W), decode cX3_comeToRest pc_ = .ok (.return_, 1) → u_ = SK d a (c_X3_comeToRest_at17 x y S) → G d X u_ R_X3_comeToRest.cells R_X3_comeToRest.slots pc_ lv_ []) : G d X (SK d a ((j_X3_comeToRest_17_g x y S), S.2)) 0 0 17 [(0, .ref (a 0)), (1, .int x), (2, .int y)] [] := by
  obtain ⟨J2_, hJ2_⟩ : ∃ z, j_X3_comeToRest_17_g x y S = z := ⟨_, rfl⟩
  rw [hJ2_]
  refine g_aload_n E 0 dX3_comeToRest_17 rfl rfl ?_
  refine g_get E (ci := 3) inlX3 4 rfl rfl 10 (by decide) fl_X3_65 rfl (.int (J2_ 13)) rfl dX3_comeToRest_18 ?_
  refine g_ifle E 35 dX3_comeToRest_21 (by decide) (fun c_21 => ?_) (fun c_21 => ?_)
  · skip
    refine g_aload_n E 0 dX3_comeToRest_35 rfl rfl ?_
    refine g_aload_n E 0 dX3_comeToRest_36 rfl rfl ?_
    refine g_iload_n E 1 dX3_comeToRest_37 rfl rfl ?_
    refine g_iload_n E 2 dX3_comeToRest_38 rfl rfl ?_
    refine g_callVi0 E gc_X3_farthestOff ml_X3_114 (t_X3_farthestOff d a x y (J2_, S.2) ) rfl rfl (ci := 3) 4 rfl rfl rfl rfl (ok_le rfl) ⟨ok_le rfl, ok_le rfl, ok_le rfl, ok_le rfl⟩ rfl rfl dX3_comeToRest_39 ?_
    refine g_nm (fun v3_ hv3_ => ?_)
    refine g_callVv0 E gc_X3_fitZone ml_X3_161 (t_X3_fitZone d a v3_ (J2_, S.2) ) rfl rfl (ci := 3) 4 rfl rfl rfl rfl (ok_le rfl) ⟨ok_le rfl, ok_le rfl, ok_le rfl, ok_le rfl⟩ rfl rfl dX3_comeToRest_42 ?_
    obtain ⟨S4_, hS4_⟩ : ∃ z, c_X3_fitZone v3_ (J2_, S.2) = z := ⟨_, rfl⟩
    rw [hS4_]
    refine g_aload_n E 0 dX3_comeToRest_45 rfl rfl ?_
    refine g_dup E dX3_comeToRest_46 rfl ?_
    refine g_get E (ci := 3) inlX3 4 rfl rfl 2 (by decide) fl_X3_30 rfl (.int (S4_.1 7)) rfl dX3_comeToRest_47 ?_
    refine g_bipush E 16 dX3_comeToRest_50 (by decide) ?_
    refine g_iload_n E 1 dX3_comeToRest_52 rfl rfl ?_
    refine g_imul E dX3_comeToRest_53 ?_
    refine g_aload_n E 0 dX3_comeToRest_54 rfl rfl ?_
    refine g_get E (ci := 3) inlX3 4 rfl rfl 2 (by decide) fl_X3_30 rfl (.int (S4_.1 7)) rfl dX3_comeToRest_55 ?_
    refine g_isub E dX3_comeToRest_58 ?_
    refine g_aload_n E 0 dX3_comeToRest_59 rfl rfl ?_
    refine g_get E (ci := 3) inlX3 4 rfl rfl 0 (by decide) fl_X3_18 rfl (.ref (a 1)) rfl dX3_comeToRest_60 ?_
    refine g_iconst E 0 dX3_comeToRest_63 (by decide) ?_
    refine g_iald E 5 rfl rfl 0 rfl (by decide) (by decide) dX3_comeToRest_64 ?_
    refine g_callSNp E gc_X4_quotient (List.mem_of_getElem? (i := 8) rfl) (t_X4_quotient d ((16 * x) - (S4_.1 7)) (S4_.2.1 0) ) rfl rfl rfl (ok_le rfl) ⟨ok_le rfl, ok_le rfl, ok_le rfl, ok_le rfl⟩ rfl rfl dX3_comeToRest_65 ?_
    refine g_nm (fun v5_ hv5_ => ?_)
    refine g_iadd E dX3_comeToRest_68 ?_
    refine g_put E (ci := 3) inlX3 4 rfl rfl 2 (by decide) tyX3 tyX3_ok nmX3 fl_X3_30 rfl rfl rfl rfl (ok_lt rfl) (ws' := SK d a (upd S4_.1 7 ((S4_.1 7) + v5_), S4_.2)) rfl dX3_comeToRest_69 ?_
    refine g_aload_n E 0 dX3_comeToRest_72 rfl rfl ?_
    refine g_dup E dX3_comeToRest_73 rfl ?_
    refine g_get E (ci := 3) inlX3 4 rfl rfl 3 (by decide) fl_X3_34 rfl (.int (S4_.1 8)) rfl dX3_comeToRest_74 ?_
    refine g_bipush E 16 dX3_comeToRest_77 (by decide) ?_
    refine g_iload_n E 2 dX3_comeToRest_79 rfl rfl ?_
    refine g_imul E dX3_comeToRest_80 ?_
    refine g_aload_n E 0 dX3_comeToRest_81 rfl rfl ?_
    refine g_get E (ci := 3) inlX3 4 rfl rfl 3 (by decide) fl_X3_34 rfl (.int (S4_.1 8)) rfl dX3_comeToRest_82 ?_
    refine g_isub E dX3_comeToRest_85 ?_
    refine g_aload_n E 0 dX3_comeToRest_86 rfl rfl ?_
    refine g_get E (ci := 3) inlX3 4 rfl rfl 0 (by decide) fl_X3_18 rfl (.ref (a 1)) rfl dX3_comeToRest_87 ?_
    refine g_iconst E 0 dX3_comeToRest_90 (by decide) ?_
    refine g_iald E 5 rfl rfl 0 rfl (by decide) (by decide) dX3_comeToRest_91 ?_
    refine g_callSNp E gc_X4_quotient (List.mem_of_getElem? (i := 8) rfl) (t_X4_quotient d ((16 * y) - (S4_.1 8)) (S4_.2.1 0) ) rfl rfl rfl (ok_le rfl) ⟨ok_le rfl, ok_le rfl, ok_le rfl, ok_le rfl⟩ rfl rfl dX3_comeToRest_92 ?_
    refine g_nm (fun v6_ hv6_ => ?_)
    refine g_iadd E dX3_comeToRest_95 ?_
    refine g_put E (ci := 3) inlX3 4 rfl rfl 3 (by decide) tyX3 tyX3_ok nmX3 fl_X3_34 rfl rfl rfl rfl (ok_lt rfl) (ws' := SK d a (upd (upd S4_.1 7 ((S4_.1 7) + v5_)) 8 ((S4_.1 8) + v6_), S4_.2)) rfl dX3_comeToRest_96 ?_
    subst hv6_
    subst hv5_
    subst hS4_
    subst hv3_
    subst hJ2_
    exact RET 99 _ _ dX3_comeToRest_99 (by rw [c_X3_comeToRest_at17, if_neg c_21])
  · skip
    refine g_aload_n E 0 dX3_comeToRest_24 rfl rfl ?_
    refine g_dup E dX3_comeToRest_25 rfl ?_
    refine g_get E (ci := 3) inlX3 4 rfl rfl 16 (by decide) fl_X3_83 rfl (.int (J2_ 20)) rfl dX3_comeToRest_26 ?_
    refine g_iconst E 1 dX3_comeToRest_29 (by decide) ?_
    refine g_iadd E dX3_comeToRest_30 ?_
    refine g_put E (ci := 3) inlX3 4 rfl rfl 16 (by decide) tyX3 tyX3_ok nmX3 fl_X3_83 rfl rfl rfl rfl (ok_lt rfl) (ws' := SK d a (upd J2_ 20 ((J2_ 20) + 1), S.2)) rfl dX3_comeToRest_31 ?_
    subst hJ2_
    exact RET 34 _ _ dX3_comeToRest_34 (by rw [c_X3_comeToRest_at17, if_pos c_21])
set_option maxHeartbeats 1000000 in
set_option maxRecDepth 100000 in
theorem s_X3_comeToRest_0 (d : gD) (a : Nat → Nat) (x : Int32) (y : Int32) (S : SS)   {X : gX} (E : gE d X RX3 cX3_comeToRest 3 R_X3_comeToRest) (RET : ∀ (pc_ : Nat) (lv_ : List (Nat × Value)) (u_ : va_W), decode cX3_comeToRest pc_ = .ok (.return_, 1) → u_ = SK d a (c_X3_comeToRest x y S) → G d X u_ R_X3_comeToRest.cells R_X3_comeToRest.slots pc_ lv_ []) : G d X (SK d a S) 0 0 0 [(0, .ref (a 0)), (1, .int x), (2, .int y)] [] := by
  refine g_aload_n E 0 dX3_comeToRest_0 rfl rfl ?_
  refine g_callVi0 E gc_X3_tellsSomething ml_X3_149 (t_X3_tellsSomething d a S ) rfl rfl (ci := 3) 4 rfl rfl rfl rfl (ok_le rfl) ⟨ok_le rfl, ok_le rfl, ok_le rfl, ok_le rfl⟩ rfl rfl dX3_comeToRest_1 ?_
  refine g_nm (fun v1_ hv1_ => ?_)
  refine g_ifeq E 17 dX3_comeToRest_4 (by decide) (fun c_4 => ?_) (fun c_4 => ?_)
  · skip
    subst hv1_
    have J := s_X3_comeToRest_17 d a x y S   E (fun pc_ lv_ u_ h1_ h2_ => RET pc_ lv_ u_ h1_ (h2_.trans (by rw [c_X3_comeToRest])))
    rw [j_X3_comeToRest_17_g, if_pos c_4] at J
    exact J
  · skip
    refine g_aload_n E 0 dX3_comeToRest_7 rfl rfl ?_
    refine g_dup E dX3_comeToRest_8 rfl ?_
    refine g_get E (ci := 3) inlX3 4 rfl rfl 12 (by decide) fl_X3_71 rfl (.int (S.1 16)) rfl dX3_comeToRest_9 ?_
    refine g_iconst E 1 dX3_comeToRest_12 (by decide) ?_
    refine g_iadd E dX3_comeToRest_13 ?_
    refine g_put E (ci := 3) inlX3 4 rfl rfl 12 (by decide) tyX3 tyX3_ok nmX3 fl_X3_71 rfl rfl rfl rfl (ok_lt rfl) (ws' := SK d a (upd S.1 16 ((S.1 16) + 1), S.2)) rfl dX3_comeToRest_14 ?_
    subst hv1_
    have J := s_X3_comeToRest_17 d a x y S   E (fun pc_ lv_ u_ h1_ h2_ => RET pc_ lv_ u_ h1_ (h2_.trans (by rw [c_X3_comeToRest])))
    rw [j_X3_comeToRest_17_g, if_neg c_4] at J
    exact J
set_option maxHeartbeats 1000000 in
set_option maxRecDepth 100000 in
theorem t_X3_comeToRest (d : gD) (a : Nat → Nat) (x : Int32) (y : Int32) (S : SS)  : gMv d yX3_comeToRest cX3_comeToRest 3 R_X3_comeToRest [.ref (a 0), .int x, .int y] (SK d a S) (fun u_ => u_ = SK d a (c_X3_comeToRest x y S)) :=
  g_met_v RX3 rfl (by decide +kernel) (Nat.le_of_ble_eq_true rfl) [(0, .ref (a 0)), (1, .int x), (2, .int y)] rfl (fun X E _ RET => s_X3_comeToRest_0 d a x y S  E (fun pc_ lv_ u_ h1_ h2_ => RET pc_ lv_ u_ h1_ h2_))
end
section
abbrev R_X3_tell : Room := { frames := 2, cells := 0, slots := 0, locals := 38 }
def j_X3_tell_41_g (telling : Int32) (S : SS) : Nat → Int32 := if (r_X3_tellsSomething (upd (upd S.1 14 ((telling / 1000) - 100)) 15 ((telling - telling / 1000 * 1000) - 100), S.2)) = 0 then (upd (upd S.1 14 ((telling / 1000) - 100)) 15 ((telling - telling / 1000 * 1000) - 100)) else (upd (upd (upd S.1 14 ((telling / 1000) - 100)) 15 ((telling - telling / 1000 * 1000) - 100)) 19 ((S.1 19) + 1))
def c_X3_tell_at41 (telling : Int32) (S : SS) : SS := ((j_X3_tell_41_g telling S), S.2.1, (c_X0_note (r_J6_compare_7cf53 ((j_X3_tell_41_g telling S) 14) 0) (r_J6_compare_7cf53 ((j_X3_tell_41_g telling S) 15) 0) S.2.2))
def c_X3_tell (telling : Int32) (S : SS) : SS := c_X3_tell_at41 telling S
set_option maxHeartbeats 1000000 in
set_option maxRecDepth 100000 in
theorem s_X3_tell_41 (d : gD) (a : Nat → Nat) (telling : Int32) (S : SS) (hu : ¬ S.2.2.1 0 < 0)  {X : gX} (E : gE d X RX3 cX3_tell 2 R_X3_tell) (RET : ∀ (pc_ : Nat) (lv_ : List (Nat × Value)) (u_ : va_W), decode cX3_tell pc_ = .ok (.return_, 1) → u_ = SK d a (c_X3_tell_at41 telling S) → G d X u_ R_X3_tell.cells R_X3_tell.slots pc_ lv_ []) : G d X (SK d a ((j_X3_tell_41_g telling S), S.2)) 0 0 41 [(0, .ref (a 0)), (1, .int telling)] [] := by
  obtain ⟨J2_, hJ2_⟩ : ∃ z, j_X3_tell_41_g telling S = z := ⟨_, rfl⟩
  rw [hJ2_]
  refine g_aload_n E 0 dX3_tell_41 rfl rfl ?_
  refine g_get E (ci := 3) inlX3 4 rfl rfl 1 (by decide) fl_X3_26 rfl (.ref (a 2)) rfl dX3_tell_42 ?_
  refine g_aload_n E 0 dX3_tell_45 rfl rfl ?_
  refine g_get E (ci := 3) inlX3 4 rfl rfl 5 (by decide) fl_X3_50 rfl (.int (J2_ 14)) rfl dX3_tell_46 ?_
  refine g_iconst E 0 dX3_tell_49 (by decide) ?_
  refine g_callSp E gc_J6_compare_7cf53 ml_X3_153 (t_J6_compare_7cf53 d (J2_ 14) 0 ) rfl rfl rfl (ok_le rfl) ⟨ok_le rfl, ok_le rfl, ok_le rfl, ok_le rfl⟩ rfl rfl dX3_tell_50 ?_
  refine g_nm (fun v3_ hv3_ => ?_)
  refine g_aload_n E 0 dX3_tell_53 rfl rfl ?_
  refine g_get E (ci := 3) inlX3 4 rfl rfl 6 (by decide) fl_X3_53 rfl (.int (J2_ 15)) rfl dX3_tell_54 ?_
  refine g_iconst E 0 dX3_tell_57 (by decide) ?_
  refine g_callSp E gc_J6_compare_7cf53 ml_X3_153 (t_J6_compare_7cf53 d (J2_ 15) 0 ) rfl rfl rfl (ok_le rfl) ⟨ok_le rfl, ok_le rfl, ok_le rfl, ok_le rfl⟩ rfl rfl dX3_tell_58 ?_
  refine g_nm (fun v4_ hv4_ => ?_)
  refine g_callVvD E gc_X0_note ml_X3_158 (t_X0_note d a v3_ v4_ S.2.2 (by first | assumption | omega)) rfl (wr := SO d a J2_ S.2.1) rfl (ci := 0) 0 rfl rfl rfl rfl (ok_le rfl) ⟨ok_le rfl, ok_le rfl, ok_le rfl, ok_le rfl⟩ rfl rfl dX3_tell_61 ?_
  refine g_eq (ws' := SK d a (J2_, S.2.1, (c_X0_note v3_ v4_ S.2.2))) (SK_mk d a J2_ S.2.1 (c_X0_note v3_ v4_ S.2.2)) ?_
  obtain ⟨S5_, hS5_⟩ : ∃ z, c_X0_note v3_ v4_ S.2.2 = z := ⟨_, rfl⟩
  rw [hS5_]
  subst hS5_
  subst hv4_
  subst hv3_
  subst hJ2_
  exact RET 64 _ _ dX3_tell_64 (by rw [c_X3_tell_at41])
set_option maxHeartbeats 1000000 in
set_option maxRecDepth 100000 in
theorem s_X3_tell_0 (d : gD) (a : Nat → Nat) (telling : Int32) (S : SS) (hu : ¬ S.2.2.1 0 < 0)  {X : gX} (E : gE d X RX3 cX3_tell 2 R_X3_tell) (RET : ∀ (pc_ : Nat) (lv_ : List (Nat × Value)) (u_ : va_W), decode cX3_tell pc_ = .ok (.return_, 1) → u_ = SK d a (c_X3_tell telling S) → G d X u_ R_X3_tell.cells R_X3_tell.slots pc_ lv_ []) : G d X (SK d a S) 0 0 0 [(0, .ref (a 0)), (1, .int telling)] [] := by
  refine g_aload_n E 0 dX3_tell_0 rfl rfl ?_
  refine g_iload_n E 1 dX3_tell_1 rfl rfl ?_
  refine g_sipush E 1000 dX3_tell_2 (by decide) ?_
  refine g_idiv E dX3_tell_5 (by decide) ?_
  refine g_bipush E 100 dX3_tell_6 (by decide) ?_
  refine g_isub E dX3_tell_8 ?_
  refine g_put E (ci := 3) inlX3 4 rfl rfl 5 (by decide) tyX3 tyX3_ok nmX3 fl_X3_50 rfl rfl rfl rfl (ok_lt rfl) (ws' := SK d a (upd S.1 14 ((telling / 1000) - 100), S.2)) rfl dX3_tell_9 ?_
  refine g_aload_n E 0 dX3_tell_12 rfl rfl ?_
  refine g_iload_n E 1 dX3_tell_13 rfl rfl ?_
  refine g_sipush E 1000 dX3_tell_14 (by decide) ?_
  refine g_irem E dX3_tell_17 (by decide) ?_
  refine g_bipush E 100 dX3_tell_18 (by decide) ?_
  refine g_isub E dX3_tell_20 ?_
  refine g_put E (ci := 3) inlX3 4 rfl rfl 6 (by decide) tyX3 tyX3_ok nmX3 fl_X3_53 rfl rfl rfl rfl (ok_lt rfl) (ws' := SK d a (upd (upd S.1 14 ((telling / 1000) - 100)) 15 ((telling - telling / 1000 * 1000) - 100), S.2)) rfl dX3_tell_21 ?_
  refine g_aload_n E 0 dX3_tell_24 rfl rfl ?_
  refine g_callVi0 E gc_X3_tellsSomething ml_X3_149 (t_X3_tellsSomething d a (upd (upd S.1 14 ((telling / 1000) - 100)) 15 ((telling - telling / 1000 * 1000) - 100), S.2) ) rfl rfl (ci := 3) 4 rfl rfl rfl rfl (ok_le rfl) ⟨ok_le rfl, ok_le rfl, ok_le rfl, ok_le rfl⟩ rfl rfl dX3_tell_25 ?_
  refine g_nm (fun v1_ hv1_ => ?_)
  refine g_ifeq E 41 dX3_tell_28 (by decide) (fun c_28 => ?_) (fun c_28 => ?_)
  · skip
    subst hv1_
    have J := s_X3_tell_41 d a telling S hu  E (fun pc_ lv_ u_ h1_ h2_ => RET pc_ lv_ u_ h1_ (h2_.trans (by rw [c_X3_tell])))
    rw [j_X3_tell_41_g, if_pos c_28] at J
    exact J
  · skip
    refine g_aload_n E 0 dX3_tell_31 rfl rfl ?_
    refine g_dup E dX3_tell_32 rfl ?_
    refine g_get E (ci := 3) inlX3 4 rfl rfl 15 (by decide) fl_X3_80 rfl (.int (S.1 19)) rfl dX3_tell_33 ?_
    refine g_iconst E 1 dX3_tell_36 (by decide) ?_
    refine g_iadd E dX3_tell_37 ?_
    refine g_put E (ci := 3) inlX3 4 rfl rfl 15 (by decide) tyX3 tyX3_ok nmX3 fl_X3_80 rfl rfl rfl rfl (ok_lt rfl) (ws' := SK d a (upd (upd (upd S.1 14 ((telling / 1000) - 100)) 15 ((telling - telling / 1000 * 1000) - 100)) 19 ((S.1 19) + 1), S.2)) rfl dX3_tell_38 ?_
    subst hv1_
    have J := s_X3_tell_41 d a telling S hu  E (fun pc_ lv_ u_ h1_ h2_ => RET pc_ lv_ u_ h1_ (h2_.trans (by rw [c_X3_tell])))
    rw [j_X3_tell_41_g, if_neg c_28] at J
    exact J
set_option maxHeartbeats 1000000 in
set_option maxRecDepth 100000 in
theorem t_X3_tell (d : gD) (a : Nat → Nat) (telling : Int32) (S : SS) (hu : ¬ S.2.2.1 0 < 0) : gMv d yX3_tell cX3_tell 2 R_X3_tell [.ref (a 0), .int telling] (SK d a S) (fun u_ => u_ = SK d a (c_X3_tell telling S)) :=
  g_met_v RX3 rfl (by decide +kernel) (Nat.le_of_ble_eq_true rfl) [(0, .ref (a 0)), (1, .int telling)] rfl (fun X E _ RET => s_X3_tell_0 d a telling S hu E (fun pc_ lv_ u_ h1_ h2_ => RET pc_ lv_ u_ h1_ h2_))
end
section
abbrev R_X3_take : Room := { frames := 4, cells := 0, slots := 0, locals := 91 }
def j_X3_take_25_s0 (x : Int32) (y : Int32) (S : SS) : Int32 := if (S.1 9) < (r_X3_farthestOff x y S) then 0 else 1
def j_X3_take_80_g (x : Int32) (y : Int32) (S : SS) : Nat → Int32 := if (j_X3_take_25_s0 x y S) = 0 then (if (r_X3_wouldDrift x y S) = 0 then (upd (upd (upd S.1 12 (r_X3_stillWith x y S)) 10 x) 11 y) else (c_X3_driftTo x y (upd (upd (upd S.1 12 (r_X3_stillWith x y S)) 10 x) 11 y, S.2)).1) else (c_X3_comeToRest x y (upd (upd (upd S.1 12 (r_X3_stillWith x y S)) 10 x) 11 y, S.2)).1
def j_X3_take_80_st (x : Int32) (y : Int32) (S : SS) : Nat → Int32 := if (j_X3_take_25_s0 x y S) = 0 then (if (r_X3_wouldDrift x y S) = 0 then S.2.1 else (c_X3_driftTo x y (upd (upd (upd S.1 12 (r_X3_stillWith x y S)) 10 x) 11 y, S.2)).2.1) else (c_X3_comeToRest x y (upd (upd (upd S.1 12 (r_X3_stillWith x y S)) 10 x) 11 y, S.2)).2.1
def j_X3_take_80_D (x : Int32) (y : Int32) (S : SS) : DD := if (j_X3_take_25_s0 x y S) = 0 then (if (r_X3_wouldDrift x y S) = 0 then S.2.2 else (c_X3_driftTo x y (upd (upd (upd S.1 12 (r_X3_stillWith x y S)) 10 x) 11 y, S.2)).2.2) else (c_X3_comeToRest x y (upd (upd (upd S.1 12 (r_X3_stillWith x y S)) 10 x) 11 y, S.2)).2.2
def j_X3_take_102_g (x : Int32) (y : Int32) (S : SS) : Nat → Int32 := if 0 < ((c_X3_tell (r_X3_tellingAt x y S) ((j_X3_take_80_g x y S), (j_X3_take_80_st x y S), (j_X3_take_80_D x y S))).1 13) then (upd (c_X3_tell (r_X3_tellingAt x y S) ((j_X3_take_80_g x y S), (j_X3_take_80_st x y S), (j_X3_take_80_D x y S))).1 13 (((c_X3_tell (r_X3_tellingAt x y S) ((j_X3_take_80_g x y S), (j_X3_take_80_st x y S), (j_X3_take_80_D x y S))).1 13) - 1)) else (c_X3_tell (r_X3_tellingAt x y S) ((j_X3_take_80_g x y S), (j_X3_take_80_st x y S), (j_X3_take_80_D x y S))).1
def c_X3_take_at102 (x : Int32) (y : Int32) (S : SS) : SS := (upd (j_X3_take_102_g x y S) 21 (((j_X3_take_102_g x y S) 21) + 1), (c_X3_tell (r_X3_tellingAt x y S) ((j_X3_take_80_g x y S), (j_X3_take_80_st x y S), (j_X3_take_80_D x y S))).2)
def c_X3_take_at80 (x : Int32) (y : Int32) (S : SS) : SS := c_X3_take_at102 x y S
def c_X3_take_at25 (x : Int32) (y : Int32) (S : SS) : SS := c_X3_take_at80 x y S
def c_X3_take (x : Int32) (y : Int32) (S : SS) : SS := c_X3_take_at25 x y S
theorem fitZone_2 (off : Int32) (S : SS) : (c_X3_fitZone off S).2 = S.2 := by
  unfold c_X3_fitZone
  split
  · rfl
  · split <;> rfl
theorem comeToRest_2 (x y : Int32) (S : SS) : (c_X3_comeToRest x y S).2 = S.2 := by
  unfold c_X3_comeToRest c_X3_comeToRest_at17
  split
  · rfl
  · exact fitZone_2 _ _
theorem j80D (x y : Int32) (S : SS) : j_X3_take_80_D x y S = S.2.2 := by
  unfold j_X3_take_80_D
  split
  · split <;> rfl
  · exact congrArg (fun q => q.2) (comeToRest_2 _ _ _)
set_option maxHeartbeats 1000000 in
set_option maxRecDepth 100000 in
theorem s_X3_take_102 (d : gD) (a : Nat → Nat) (x : Int32) (y : Int32) (S : SS) (hu : ¬ S.2.2.1 0 < 0)  {X : gX} (E : gE d X RX3 cX3_take 6 R_X3_take) (RET : ∀ (pc_ : Nat) (lv_ : List (Nat × Value)) (u_ : va_W), decode cX3_take pc_ = .ok (.return_, 1) → u_ = SK d a (c_X3_take_at102 x y S) → G d X u_ R_X3_take.cells R_X3_take.slots pc_ lv_ []) : G d X (SK d a ((j_X3_take_102_g x y S), (c_X3_tell (r_X3_tellingAt x y S) ((j_X3_take_80_g x y S), (j_X3_take_80_st x y S), (j_X3_take_80_D x y S))).2)) 0 0 102 [(0, .ref (a 0)), (1, .int x), (2, .int y), (3, .int (r_X3_tellingAt x y S)), (4, .int (j_X3_take_25_s0 x y S)), (5, .int (r_X3_wouldDrift x y S))] [] := by
  obtain ⟨v1_, hv1_⟩ : ∃ z, r_X3_tellingAt x y S = z := ⟨_, rfl⟩
  rw [hv1_]
  obtain ⟨J3_, hJ3_⟩ : ∃ z, j_X3_take_25_s0 x y S = z := ⟨_, rfl⟩
  rw [hJ3_]
  obtain ⟨v4_, hv4_⟩ : ∃ z, r_X3_wouldDrift x y S = z := ⟨_, rfl⟩
  rw [hv4_]
  obtain ⟨J8_, hJ8_⟩ : ∃ z, j_X3_take_80_g x y S = z := ⟨_, rfl⟩
  rw [hJ8_]
  obtain ⟨J9_, hJ9_⟩ : ∃ z, j_X3_take_80_st x y S = z := ⟨_, rfl⟩
  rw [hJ9_]
  obtain ⟨J10_, hJ10_⟩ : ∃ z, j_X3_take_80_D x y S = z := ⟨_, rfl⟩
  rw [hJ10_]
  obtain ⟨S11_, hS11_⟩ : ∃ z, c_X3_tell v1_ (J8_, J9_, J10_) = z := ⟨_, rfl⟩
  rw [hS11_]
  obtain ⟨J12_, hJ12_⟩ : ∃ z, j_X3_take_102_g x y S = z := ⟨_, rfl⟩
  rw [hJ12_]
  refine g_aload_n E 0 dX3_take_102 rfl rfl ?_
  refine g_dup E dX3_take_103 rfl ?_
  refine g_get E (ci := 3) inlX3 4 rfl rfl 11 (by decide) fl_X3_68 rfl (.int (J12_ 21)) rfl dX3_take_104 ?_
  refine g_iconst E 1 dX3_take_107 (by decide) ?_
  refine g_iadd E dX3_take_108 ?_
  refine g_put E (ci := 3) inlX3 4 rfl rfl 11 (by decide) tyX3 tyX3_ok nmX3 fl_X3_68 rfl rfl rfl rfl (ok_lt rfl) (ws' := SK d a (upd J12_ 21 ((J12_ 21) + 1), S11_.2)) rfl dX3_take_109 ?_
  subst hJ12_
  subst hS11_
  subst hJ10_
  subst hJ9_
  subst hJ8_
  subst hv4_
  subst hJ3_
  subst hv1_
  exact RET 112 _ _ dX3_take_112 (by rw [c_X3_take_at102])
set_option maxHeartbeats 1000000 in
set_option maxRecDepth 100000 in
theorem s_X3_take_80 (d : gD) (a : Nat → Nat) (x : Int32) (y : Int32) (S : SS) (hu : ¬ S.2.2.1 0 < 0)  {X : gX} (E : gE d X RX3 cX3_take 6 R_X3_take) (RET : ∀ (pc_ : Nat) (lv_ : List (Nat × Value)) (u_ : va_W), decode cX3_take pc_ = .ok (.return_, 1) → u_ = SK d a (c_X3_take_at80 x y S) → G d X u_ R_X3_take.cells R_X3_take.slots pc_ lv_ []) : G d X (SK d a ((j_X3_take_80_g x y S), (j_X3_take_80_st x y S), (j_X3_take_80_D x y S))) 0 0 80 [(0, .ref (a 0)), (1, .int x), (2, .int y), (3, .int (r_X3_tellingAt x y S)), (4, .int (j_X3_take_25_s0 x y S)), (5, .int (r_X3_wouldDrift x y S))] [] := by
  obtain ⟨v1_, hv1_⟩ : ∃ z, r_X3_tellingAt x y S = z := ⟨_, rfl⟩
  rw [hv1_]
  obtain ⟨J3_, hJ3_⟩ : ∃ z, j_X3_take_25_s0 x y S = z := ⟨_, rfl⟩
  rw [hJ3_]
  obtain ⟨v4_, hv4_⟩ : ∃ z, r_X3_wouldDrift x y S = z := ⟨_, rfl⟩
  rw [hv4_]
  obtain ⟨J8_, hJ8_⟩ : ∃ z, j_X3_take_80_g x y S = z := ⟨_, rfl⟩
  rw [hJ8_]
  obtain ⟨J9_, hJ9_⟩ : ∃ z, j_X3_take_80_st x y S = z := ⟨_, rfl⟩
  rw [hJ9_]
  obtain ⟨J10_, hJ10_⟩ : ∃ z, j_X3_take_80_D x y S = z := ⟨_, rfl⟩
  rw [hJ10_]
  refine g_aload_n E 0 dX3_take_80 rfl rfl ?_
  refine g_iload_n E 3 dX3_take_81 rfl rfl ?_
  refine g_callVv0 E gc_X3_tell ml_X3_145 (t_X3_tell d a v1_ (J8_, J9_, J10_) (by subst_vars; show ¬ (j_X3_take_80_D x y S).1 0 < 0; rw [j80D]; exact hu)) rfl rfl (ci := 3) 4 rfl rfl rfl rfl (ok_le rfl) ⟨ok_le rfl, ok_le rfl, ok_le rfl, ok_le rfl⟩ rfl rfl dX3_take_82 ?_
  obtain ⟨S11_, hS11_⟩ : ∃ z, c_X3_tell v1_ (J8_, J9_, J10_) = z := ⟨_, rfl⟩
  rw [hS11_]
  refine g_aload_n E 0 dX3_take_85 rfl rfl ?_
  refine g_get E (ci := 3) inlX3 4 rfl rfl 10 (by decide) fl_X3_65 rfl (.int (S11_.1 13)) rfl dX3_take_86 ?_
  refine g_ifle E 102 dX3_take_89 (by decide) (fun c_89 => ?_) (fun c_89 => ?_)
  · skip
    subst hS11_
    subst hJ10_
    subst hJ9_
    subst hJ8_
    subst hv4_
    subst hJ3_
    subst hv1_
    have J := s_X3_take_102 d a x y S hu  E (fun pc_ lv_ u_ h1_ h2_ => RET pc_ lv_ u_ h1_ (h2_.trans (by rw [c_X3_take_at80])))
    rw [j_X3_take_102_g, if_neg c_89] at J
    exact J
  · skip
    refine g_aload_n E 0 dX3_take_92 rfl rfl ?_
    refine g_dup E dX3_take_93 rfl ?_
    refine g_get E (ci := 3) inlX3 4 rfl rfl 10 (by decide) fl_X3_65 rfl (.int (S11_.1 13)) rfl dX3_take_94 ?_
    refine g_iconst E 1 dX3_take_97 (by decide) ?_
    refine g_isub E dX3_take_98 ?_
    refine g_put E (ci := 3) inlX3 4 rfl rfl 10 (by decide) tyX3 tyX3_ok nmX3 fl_X3_65 rfl rfl rfl rfl (ok_lt rfl) (ws' := SK d a (upd S11_.1 13 ((S11_.1 13) - 1), S11_.2)) rfl dX3_take_99 ?_
    subst hS11_
    subst hJ10_
    subst hJ9_
    subst hJ8_
    subst hv4_
    subst hJ3_
    subst hv1_
    have J := s_X3_take_102 d a x y S hu  E (fun pc_ lv_ u_ h1_ h2_ => RET pc_ lv_ u_ h1_ (h2_.trans (by rw [c_X3_take_at80])))
    rw [j_X3_take_102_g, if_pos c_89] at J
    exact J
set_option maxHeartbeats 1000000 in
set_option maxRecDepth 100000 in
theorem s_X3_take_25 (d : gD) (a : Nat → Nat) (x : Int32) (y : Int32) (S : SS) (hu : ¬ S.2.2.1 0 < 0)  {X : gX} (E : gE d X RX3 cX3_take 6 R_X3_take) (RET : ∀ (pc_ : Nat) (lv_ : List (Nat × Value)) (u_ : va_W), decode cX3_take pc_ = .ok (.return_, 1) → u_ = SK d a (c_X3_take_at25 x y S) → G d X u_ R_X3_take.cells R_X3_take.slots pc_ lv_ []) : G d X (SK d a S) 0 0 25 [(0, .ref (a 0)), (1, .int x), (2, .int y), (3, .int (r_X3_tellingAt x y S))] [.int (j_X3_take_25_s0 x y S)] := by
  obtain ⟨v1_, hv1_⟩ : ∃ z, r_X3_tellingAt x y S = z := ⟨_, rfl⟩
  rw [hv1_]
  obtain ⟨J3_, hJ3_⟩ : ∃ z, j_X3_take_25_s0 x y S = z := ⟨_, rfl⟩
  rw [hJ3_]
  refine g_istore E (lv' := [(4, .int J3_), (0, .ref (a 0)), (1, .int x), (2, .int y), (3, .int v1_)]) dX3_take_25 (by decide) rfl ?_
  refine g_aload_n E 1 dX3_take_27 rfl rfl ?_
  refine g_iload_n E 2 dX3_take_28 rfl rfl ?_
  refine g_iload_n E 3 dX3_take_29 rfl rfl ?_
  refine g_callVi0 E gc_X3_wouldDrift ml_X3_120 (t_X3_wouldDrift d a x y S ) rfl rfl (ci := 3) 4 rfl rfl rfl rfl (ok_le rfl) ⟨ok_le rfl, ok_le rfl, ok_le rfl, ok_le rfl⟩ rfl rfl dX3_take_30 ?_
  refine g_nm (fun v4_ hv4_ => ?_)
  refine g_istore E (lv' := [(5, .int v4_), (4, .int J3_), (0, .ref (a 0)), (1, .int x), (2, .int y), (3, .int v1_)]) dX3_take_33 (by decide) rfl ?_
  refine g_aload_n E 2 dX3_take_35 rfl rfl ?_
  refine g_aload_n E 2 dX3_take_36 rfl rfl ?_
  refine g_iload_n E 3 dX3_take_37 rfl rfl ?_
  refine g_iload_n E 4 dX3_take_38 rfl rfl ?_
  refine g_callVi0 E gc_X3_stillWith ml_X3_117 (t_X3_stillWith d a x y S ) rfl rfl (ci := 3) 4 rfl rfl rfl rfl (ok_le rfl) ⟨ok_le rfl, ok_le rfl, ok_le rfl, ok_le rfl⟩ rfl rfl dX3_take_39 ?_
  refine g_nm (fun v5_ hv5_ => ?_)
  refine g_put E (ci := 3) inlX3 4 rfl rfl 9 (by decide) tyX3 tyX3_ok nmX3 fl_X3_62 rfl rfl rfl rfl (ok_lt rfl) (ws' := SK d a (upd S.1 12 v5_, S.2)) rfl dX3_take_42 ?_
  refine g_aload_n E 2 dX3_take_45 rfl rfl ?_
  refine g_iload_n E 3 dX3_take_46 rfl rfl ?_
  refine g_put E (ci := 3) inlX3 4 rfl rfl 7 (by decide) tyX3 tyX3_ok nmX3 fl_X3_56 rfl rfl rfl rfl (ok_lt rfl) (ws' := SK d a (upd (upd S.1 12 v5_) 10 x, S.2)) rfl dX3_take_47 ?_
  refine g_aload_n E 2 dX3_take_50 rfl rfl ?_
  refine g_iload_n E 4 dX3_take_51 rfl rfl ?_
  refine g_put E (ci := 3) inlX3 4 rfl rfl 8 (by decide) tyX3 tyX3_ok nmX3 fl_X3_59 rfl rfl rfl rfl (ok_lt rfl) (ws' := SK d a (upd (upd (upd S.1 12 v5_) 10 x) 11 y, S.2)) rfl dX3_take_52 ?_
  refine g_iload E 1 dX3_take_55 rfl ?_
  refine g_ifeq E 69 dX3_take_57 (by decide) (fun c_57 => ?_) (fun c_57 => ?_)
  · skip
    refine g_iload E 0 dX3_take_69 rfl ?_
    refine g_ifeq E 80 dX3_take_71 (by decide) (fun c_71 => ?_) (fun c_71 => ?_)
    · skip
      refine g_lvs (lv' := [(0, .ref (a 0)), (1, .int x), (2, .int y), (3, .int v1_), (4, .int J3_), (5, .int v4_)]) [2, 3, 4, 5, 1, 0] rfl ?_
      subst hv5_
      subst hv4_
      subst hJ3_
      subst hv1_
      have J := s_X3_take_80 d a x y S hu  E (fun pc_ lv_ u_ h1_ h2_ => RET pc_ lv_ u_ h1_ (h2_.trans (by rw [c_X3_take_at25])))
      rw [j_X3_take_80_g, if_pos c_57, if_pos c_71, j_X3_take_80_st, if_pos c_57, if_pos c_71, j_X3_take_80_D, if_pos c_57, if_pos c_71] at J
      exact J
    · skip
      refine g_aload_n E 2 dX3_take_74 rfl rfl ?_
      refine g_iload_n E 3 dX3_take_75 rfl rfl ?_
      refine g_iload_n E 4 dX3_take_76 rfl rfl ?_
      refine g_callVv0 E gc_X3_driftTo ml_X3_142 (t_X3_driftTo d a x y (upd (upd (upd S.1 12 v5_) 10 x) 11 y, S.2) ) rfl rfl (ci := 3) 4 rfl rfl rfl rfl (ok_le rfl) ⟨ok_le rfl, ok_le rfl, ok_le rfl, ok_le rfl⟩ rfl rfl dX3_take_77 ?_
      obtain ⟨S6_, hS6_⟩ : ∃ z, c_X3_driftTo x y (upd (upd (upd S.1 12 v5_) 10 x) 11 y, S.2) = z := ⟨_, rfl⟩
      rw [hS6_]
      refine g_lvs (lv' := [(0, .ref (a 0)), (1, .int x), (2, .int y), (3, .int v1_), (4, .int J3_), (5, .int v4_)]) [2, 3, 4, 5, 1, 0] rfl ?_
      subst hS6_
      subst hv5_
      subst hv4_
      subst hJ3_
      subst hv1_
      have J := s_X3_take_80 d a x y S hu  E (fun pc_ lv_ u_ h1_ h2_ => RET pc_ lv_ u_ h1_ (h2_.trans (by rw [c_X3_take_at25])))
      rw [j_X3_take_80_g, if_pos c_57, if_neg c_71, j_X3_take_80_st, if_pos c_57, if_neg c_71, j_X3_take_80_D, if_pos c_57, if_neg c_71] at J
      exact J
  · skip
    refine g_aload_n E 2 dX3_take_60 rfl rfl ?_
    refine g_iload_n E 3 dX3_take_61 rfl rfl ?_
    refine g_iload_n E 4 dX3_take_62 rfl rfl ?_
    refine g_callVv0 E gc_X3_comeToRest ml_X3_138 (t_X3_comeToRest d a x y (upd (upd (upd S.1 12 v5_) 10 x) 11 y, S.2) ) rfl rfl (ci := 3) 4 rfl rfl rfl rfl (ok_le rfl) ⟨ok_le rfl, ok_le rfl, ok_le rfl, ok_le rfl⟩ rfl rfl dX3_take_63 ?_
    obtain ⟨S7_, hS7_⟩ : ∃ z, c_X3_comeToRest x y (upd (upd (upd S.1 12 v5_) 10 x) 11 y, S.2) = z := ⟨_, rfl⟩
    rw [hS7_]
    refine g_goto E 80 dX3_take_66 (by decide) ?_
    refine g_lvs (lv' := [(0, .ref (a 0)), (1, .int x), (2, .int y), (3, .int v1_), (4, .int J3_), (5, .int v4_)]) [2, 3, 4, 5, 1, 0] rfl ?_
    subst hS7_
    subst hv5_
    subst hv4_
    subst hJ3_
    subst hv1_
    have J := s_X3_take_80 d a x y S hu  E (fun pc_ lv_ u_ h1_ h2_ => RET pc_ lv_ u_ h1_ (h2_.trans (by rw [c_X3_take_at25])))
    rw [j_X3_take_80_g, if_neg c_57, j_X3_take_80_st, if_neg c_57, j_X3_take_80_D, if_neg c_57] at J
    exact J
set_option maxHeartbeats 1000000 in
set_option maxRecDepth 100000 in
theorem s_X3_take_0 (d : gD) (a : Nat → Nat) (x : Int32) (y : Int32) (S : SS) (hu : ¬ S.2.2.1 0 < 0)  {X : gX} (E : gE d X RX3 cX3_take 6 R_X3_take) (RET : ∀ (pc_ : Nat) (lv_ : List (Nat × Value)) (u_ : va_W), decode cX3_take pc_ = .ok (.return_, 1) → u_ = SK d a (c_X3_take x y S) → G d X u_ R_X3_take.cells R_X3_take.slots pc_ lv_ []) : G d X (SK d a S) 0 0 0 [(0, .ref (a 0)), (1, .int x), (2, .int y)] [] := by
  refine g_aload_n E 0 dX3_take_0 rfl rfl ?_
  refine g_iload_n E 1 dX3_take_1 rfl rfl ?_
  refine g_iload_n E 2 dX3_take_2 rfl rfl ?_
  refine g_callVi0 E gc_X3_tellingAt ml_X3_135 (t_X3_tellingAt d a x y S ) rfl rfl (ci := 3) 4 rfl rfl rfl rfl (ok_le rfl) ⟨ok_le rfl, ok_le rfl, ok_le rfl, ok_le rfl⟩ rfl rfl dX3_take_3 ?_
  refine g_nm (fun v1_ hv1_ => ?_)
  refine g_istore_n E (lv' := [(3, .int v1_), (0, .ref (a 0)), (1, .int x), (2, .int y)]) dX3_take_6 rfl (by decide) rfl ?_
  refine g_aload_n E 1 dX3_take_7 rfl rfl ?_
  refine g_iload_n E 2 dX3_take_8 rfl rfl ?_
  refine g_iload_n E 3 dX3_take_9 rfl rfl ?_
  refine g_callVi0 E gc_X3_farthestOff ml_X3_114 (t_X3_farthestOff d a x y S ) rfl rfl (ci := 3) 4 rfl rfl rfl rfl (ok_le rfl) ⟨ok_le rfl, ok_le rfl, ok_le rfl, ok_le rfl⟩ rfl rfl dX3_take_10 ?_
  refine g_nm (fun v2_ hv2_ => ?_)
  refine g_aload_n E 1 dX3_take_13 rfl rfl ?_
  refine g_get E (ci := 3) inlX3 4 rfl rfl 4 (by decide) fl_X3_37 rfl (.int (S.1 9)) rfl dX3_take_14 ?_
  refine g_icmpgt E 24 dX3_take_17 (by decide) (fun c_17 => ?_) (fun c_17 => ?_)
  · skip
    refine g_iconst E 0 dX3_take_24 (by decide) ?_
    refine g_lvs (lv' := [(0, .ref (a 0)), (1, .int x), (2, .int y), (3, .int v1_)]) [1, 2, 3, 0] rfl ?_
    subst hv2_
    subst hv1_
    have J := s_X3_take_25 d a x y S hu  E (fun pc_ lv_ u_ h1_ h2_ => RET pc_ lv_ u_ h1_ (h2_.trans (by rw [c_X3_take])))
    rw [j_X3_take_25_s0, if_pos c_17] at J
    exact J
  · skip
    refine g_iconst E 1 dX3_take_20 (by decide) ?_
    refine g_goto E 25 dX3_take_21 (by decide) ?_
    refine g_lvs (lv' := [(0, .ref (a 0)), (1, .int x), (2, .int y), (3, .int v1_)]) [1, 2, 3, 0] rfl ?_
    subst hv2_
    subst hv1_
    have J := s_X3_take_25 d a x y S hu  E (fun pc_ lv_ u_ h1_ h2_ => RET pc_ lv_ u_ h1_ (h2_.trans (by rw [c_X3_take])))
    rw [j_X3_take_25_s0, if_neg c_17] at J
    exact J
set_option maxHeartbeats 1000000 in
set_option maxRecDepth 100000 in
theorem t_X3_take (d : gD) (a : Nat → Nat) (x : Int32) (y : Int32) (S : SS) (hu : ¬ S.2.2.1 0 < 0) : gMv d yX3_take cX3_take 6 R_X3_take [.ref (a 0), .int x, .int y] (SK d a S) (fun u_ => u_ = SK d a (c_X3_take x y S)) :=
  g_met_v RX3 rfl (by decide +kernel) (Nat.le_of_ble_eq_true rfl) [(0, .ref (a 0)), (1, .int x), (2, .int y)] rfl (fun X E _ RET => s_X3_take_0 d a x y S hu E (fun pc_ lv_ u_ h1_ h2_ => RET pc_ lv_ u_ h1_ h2_))
end
section
abbrev R_X3_about : Room := { frames := 0, cells := 0, slots := 0, locals := 0 }
def r_X3_about (what : Int32) (rest : Int32) (tells : Int32) (latest : Int32) (S : SS) : Int32 := if what = 0 then rest else (if what = 1 then (tells + 100) else (if what = 2 then (if (S.1 21) = 0 then (-6) else latest) else (if what = 3 then (if (S.1 21) = 0 then (-6) else ((latest - (rest / 16)) + 1000)) else (-2))))
set_option maxHeartbeats 1000000 in
set_option maxRecDepth 100000 in
theorem s_X3_about_0 (d : gD) (a : Nat → Nat) (what : Int32) (rest : Int32) (tells : Int32) (latest : Int32) (S : SS)   {X : gX} (E : gE d X RX3 cX3_about 5 R_X3_about) (RET : ∀ (pc_ : Nat) (lv_ : List (Nat × Value)) (v_ : Int32) (u_ : va_W), decode cX3_about pc_ = .ok (.ireturn, 1) → narrow .int (.int v_) = .int v_ → v_ = r_X3_about what rest tells latest S → u_ = SK d a S → G d X u_ R_X3_about.cells R_X3_about.slots pc_ lv_ [.int v_]) : G d X (SK d a S) 0 0 0 [(0, .ref (a 0)), (1, .int what), (2, .int rest), (3, .int tells), (4, .int latest)] [] := by
  refine g_iload_n E 1 dX3_about_0 rfl rfl ?_
  by_cases w_1_0 : what = 0
  · skip
    refine g_tableIn E 32 dX3_about_1 (by rw [w_1_0]; decide) (by rw [w_1_0]; decide) (by rw [w_1_0]; rfl) (by decide) ?_
    refine g_iload_n E 2 dX3_about_32 rfl rfl ?_
    exact RET 33 _ rest _ dX3_about_33 rfl (by rw [r_X3_about, if_pos w_1_0]) rfl
  · skip
    by_cases w_1_1 : what = 1
    · skip
      refine g_tableIn E 34 dX3_about_1 (by rw [w_1_1]; decide) (by rw [w_1_1]; decide) (by rw [w_1_1]; rfl) (by decide) ?_
      refine g_iload_n E 3 dX3_about_34 rfl rfl ?_
      refine g_bipush E 100 dX3_about_35 (by decide) ?_
      refine g_iadd E dX3_about_37 ?_
      exact RET 38 _ (tells + 100) _ dX3_about_38 rfl (by rw [r_X3_about, if_neg w_1_0, if_pos w_1_1]) rfl
    · skip
      by_cases w_1_2 : what = 2
      · skip
        refine g_tableIn E 39 dX3_about_1 (by rw [w_1_2]; decide) (by rw [w_1_2]; decide) (by rw [w_1_2]; rfl) (by decide) ?_
        refine g_aload_n E 0 dX3_about_39 rfl rfl ?_
        refine g_get E (ci := 3) inlX3 4 rfl rfl 11 (by decide) fl_X3_68 rfl (.int (S.1 21)) rfl dX3_about_40 ?_
        refine g_ifne E 51 dX3_about_43 (by decide) (fun c_43 => ?_) (fun c_43 => ?_)
        · skip
          refine g_iload E 4 dX3_about_51 rfl ?_
          exact RET 53 _ latest _ dX3_about_53 rfl (by rw [r_X3_about, if_neg w_1_0, if_neg w_1_1, if_pos w_1_2, if_neg c_43]) rfl
        · skip
          refine g_bipush E (-6) dX3_about_46 (by decide) ?_
          refine g_goto E 53 dX3_about_48 (by decide) ?_
          exact RET 53 _ (-6) _ dX3_about_53 rfl (by rw [r_X3_about, if_neg w_1_0, if_neg w_1_1, if_pos w_1_2, if_pos c_43]) rfl
      · skip
        by_cases w_1_3 : what = 3
        · skip
          refine g_tableIn E 54 dX3_about_1 (by rw [w_1_3]; decide) (by rw [w_1_3]; decide) (by rw [w_1_3]; rfl) (by decide) ?_
          refine g_aload_n E 0 dX3_about_54 rfl rfl ?_
          refine g_get E (ci := 3) inlX3 4 rfl rfl 11 (by decide) fl_X3_68 rfl (.int (S.1 21)) rfl dX3_about_55 ?_
          refine g_ifne E 66 dX3_about_58 (by decide) (fun c_58 => ?_) (fun c_58 => ?_)
          · skip
            refine g_iload E 4 dX3_about_66 rfl ?_
            refine g_iload_n E 2 dX3_about_68 rfl rfl ?_
            refine g_bipush E 16 dX3_about_69 (by decide) ?_
            refine g_idiv E dX3_about_71 (by decide) ?_
            refine g_isub E dX3_about_72 ?_
            refine g_sipush E 1000 dX3_about_73 (by decide) ?_
            refine g_iadd E dX3_about_76 ?_
            exact RET 77 _ ((latest - (rest / 16)) + 1000) _ dX3_about_77 rfl (by rw [r_X3_about, if_neg w_1_0, if_neg w_1_1, if_neg w_1_2, if_pos w_1_3, if_neg c_58]) rfl
          · skip
            refine g_bipush E (-6) dX3_about_61 (by decide) ?_
            refine g_goto E 77 dX3_about_63 (by decide) ?_
            exact RET 77 _ (-6) _ dX3_about_77 rfl (by rw [r_X3_about, if_neg w_1_0, if_neg w_1_1, if_neg w_1_2, if_pos w_1_3, if_pos c_58]) rfl
        · skip
          refine g_tableOut E 78 dX3_about_1 (by have z0 := lv_neT (x := what) (k := 0) (a := 0) w_1_0 (by decide); have z1 := lv_neT (x := what) (k := 1) (a := 1) w_1_1 (by decide); have z2 := lv_neT (x := what) (k := 2) (a := 2) w_1_2 (by decide); have z3 := lv_neT (x := what) (k := 3) (a := 3) w_1_3 (by decide); omega) (by decide) ?_
          refine g_bipush E (-2) dX3_about_78 (by decide) ?_
          exact RET 80 _ (-2) _ dX3_about_80 rfl (by rw [r_X3_about, if_neg w_1_0, if_neg w_1_1, if_neg w_1_2, if_neg w_1_3]) rfl
set_option maxHeartbeats 1000000 in
set_option maxRecDepth 100000 in
theorem t_X3_about (d : gD) (a : Nat → Nat) (what : Int32) (rest : Int32) (tells : Int32) (latest : Int32) (S : SS)  : gMi d yX3_about cX3_about 5 (some .int) R_X3_about [.ref (a 0), .int what, .int rest, .int tells, .int latest] (SK d a S) (fun r_ u_ => r_ = r_X3_about what rest tells latest S ∧ u_ = SK d a S) :=
  g_met_i RX3 rfl (by decide +kernel) (Nat.le_of_ble_eq_true rfl) [(0, .ref (a 0)), (1, .int what), (2, .int rest), (3, .int tells), (4, .int latest)] rfl (fun X E RET => s_X3_about_0 d a what rest tells latest S  E (fun pc_ lv_ v_ u_ h1_ h2_ h3_ h4_ => RET pc_ lv_ v_ u_ h1_ h2_ ⟨h3_, h4_⟩))
abbrev R_X3_aboutX : Room := { frames := 1, cells := 0, slots := 0, locals := 24 }
def r_X3_aboutX (what : Int32) (S : SS) : Int32 := (r_X3_about what (S.1 7) (S.1 14) (S.1 10) S)
set_option maxHeartbeats 1000000 in
set_option maxRecDepth 100000 in
theorem s_X3_aboutX_0 (d : gD) (a : Nat → Nat) (what : Int32) (S : SS)   {X : gX} (E : gE d X RX3 cX3_aboutX 2 R_X3_aboutX) (RET : ∀ (pc_ : Nat) (lv_ : List (Nat × Value)) (v_ : Int32) (u_ : va_W), decode cX3_aboutX pc_ = .ok (.ireturn, 1) → narrow .int (.int v_) = .int v_ → v_ = r_X3_aboutX what S → u_ = SK d a S → G d X u_ R_X3_aboutX.cells R_X3_aboutX.slots pc_ lv_ [.int v_]) : G d X (SK d a S) 0 0 0 [(0, .ref (a 0)), (1, .int what)] [] := by
  refine g_aload_n E 0 dX3_aboutX_0 rfl rfl ?_
  refine g_iload_n E 1 dX3_aboutX_1 rfl rfl ?_
  refine g_aload_n E 0 dX3_aboutX_2 rfl rfl ?_
  refine g_get E (ci := 3) inlX3 4 rfl rfl 2 (by decide) fl_X3_30 rfl (.int (S.1 7)) rfl dX3_aboutX_3 ?_
  refine g_aload_n E 0 dX3_aboutX_6 rfl rfl ?_
  refine g_get E (ci := 3) inlX3 4 rfl rfl 5 (by decide) fl_X3_50 rfl (.int (S.1 14)) rfl dX3_aboutX_7 ?_
  refine g_aload_n E 0 dX3_aboutX_10 rfl rfl ?_
  refine g_get E (ci := 3) inlX3 4 rfl rfl 7 (by decide) fl_X3_56 rfl (.int (S.1 10)) rfl dX3_aboutX_11 ?_
  refine g_callVi0 E gc_X3_about ml_X3_164 (t_X3_about d a what (S.1 7) (S.1 14) (S.1 10) S ) rfl rfl (ci := 3) 4 rfl rfl rfl rfl (ok_le rfl) ⟨ok_le rfl, ok_le rfl, ok_le rfl, ok_le rfl⟩ rfl rfl dX3_aboutX_14 ?_
  refine g_nm (fun v1_ hv1_ => ?_)
  subst hv1_
  exact RET 17 _ (r_X3_about what (S.1 7) (S.1 14) (S.1 10) S) _ dX3_aboutX_17 rfl (by rw [r_X3_aboutX]) rfl
set_option maxHeartbeats 1000000 in
set_option maxRecDepth 100000 in
theorem t_X3_aboutX (d : gD) (a : Nat → Nat) (what : Int32) (S : SS)  : gMi d yX3_aboutX cX3_aboutX 2 (some .int) R_X3_aboutX [.ref (a 0), .int what] (SK d a S) (fun r_ u_ => r_ = r_X3_aboutX what S ∧ u_ = SK d a S) :=
  g_met_i RX3 rfl (by decide +kernel) (Nat.le_of_ble_eq_true rfl) [(0, .ref (a 0)), (1, .int what)] rfl (fun X E RET => s_X3_aboutX_0 d a what S  E (fun pc_ lv_ v_ u_ h1_ h2_ h3_ h4_ => RET pc_ lv_ v_ u_ h1_ h2_ ⟨h3_, h4_⟩))
abbrev R_X3_aboutY : Room := { frames := 1, cells := 0, slots := 0, locals := 24 }
def r_X3_aboutY (what : Int32) (S : SS) : Int32 := (r_X3_about what (S.1 8) (S.1 15) (S.1 11) S)
set_option maxHeartbeats 1000000 in
set_option maxRecDepth 100000 in
theorem s_X3_aboutY_0 (d : gD) (a : Nat → Nat) (what : Int32) (S : SS)   {X : gX} (E : gE d X RX3 cX3_aboutY 2 R_X3_aboutY) (RET : ∀ (pc_ : Nat) (lv_ : List (Nat × Value)) (v_ : Int32) (u_ : va_W), decode cX3_aboutY pc_ = .ok (.ireturn, 1) → narrow .int (.int v_) = .int v_ → v_ = r_X3_aboutY what S → u_ = SK d a S → G d X u_ R_X3_aboutY.cells R_X3_aboutY.slots pc_ lv_ [.int v_]) : G d X (SK d a S) 0 0 0 [(0, .ref (a 0)), (1, .int what)] [] := by
  refine g_aload_n E 0 dX3_aboutY_0 rfl rfl ?_
  refine g_iload_n E 1 dX3_aboutY_1 rfl rfl ?_
  refine g_aload_n E 0 dX3_aboutY_2 rfl rfl ?_
  refine g_get E (ci := 3) inlX3 4 rfl rfl 3 (by decide) fl_X3_34 rfl (.int (S.1 8)) rfl dX3_aboutY_3 ?_
  refine g_aload_n E 0 dX3_aboutY_6 rfl rfl ?_
  refine g_get E (ci := 3) inlX3 4 rfl rfl 6 (by decide) fl_X3_53 rfl (.int (S.1 15)) rfl dX3_aboutY_7 ?_
  refine g_aload_n E 0 dX3_aboutY_10 rfl rfl ?_
  refine g_get E (ci := 3) inlX3 4 rfl rfl 8 (by decide) fl_X3_59 rfl (.int (S.1 11)) rfl dX3_aboutY_11 ?_
  refine g_callVi0 E gc_X3_about ml_X3_164 (t_X3_about d a what (S.1 8) (S.1 15) (S.1 11) S ) rfl rfl (ci := 3) 4 rfl rfl rfl rfl (ok_le rfl) ⟨ok_le rfl, ok_le rfl, ok_le rfl, ok_le rfl⟩ rfl rfl dX3_aboutY_14 ?_
  refine g_nm (fun v1_ hv1_ => ?_)
  subst hv1_
  exact RET 17 _ (r_X3_about what (S.1 8) (S.1 15) (S.1 11) S) _ dX3_aboutY_17 rfl (by rw [r_X3_aboutY]) rfl
set_option maxHeartbeats 1000000 in
set_option maxRecDepth 100000 in
theorem t_X3_aboutY (d : gD) (a : Nat → Nat) (what : Int32) (S : SS)  : gMi d yX3_aboutY cX3_aboutY 2 (some .int) R_X3_aboutY [.ref (a 0), .int what] (SK d a S) (fun r_ u_ => r_ = r_X3_aboutY what S ∧ u_ = SK d a S) :=
  g_met_i RX3 rfl (by decide +kernel) (Nat.le_of_ble_eq_true rfl) [(0, .ref (a 0)), (1, .int what)] rfl (fun X E RET => s_X3_aboutY_0 d a what S  E (fun pc_ lv_ v_ u_ h1_ h2_ h3_ h4_ => RET pc_ lv_ v_ u_ h1_ h2_ ⟨h3_, h4_⟩))
abbrev R_X3_number : Room := { frames := 0, cells := 0, slots := 0, locals := 0 }
def r_X3_number (what : Int32) (S : SS) : Int32 := if what < 10 then (if what = 0 then (S.1 21) else (if what = 1 then (S.1 9) else (if what = 2 then (S.1 12) else (if what = 3 then (S.1 13) else (if what = 4 then (S.1 16) else (if what = 5 then (S.1 17) else (if what = 6 then (S.1 18) else (if what = 7 then (S.1 19) else (if what = 8 then (S.2.2.1 0) else (if what = 9 then (S.1 20) else (-2))))))))))) else (if (what - 10) < 7 then (S.2.1 ((what - 10).toNatClampNeg)) else (if what = 0 then (S.1 21) else (if what = 1 then (S.1 9) else (if what = 2 then (S.1 12) else (if what = 3 then (S.1 13) else (if what = 4 then (S.1 16) else (if what = 5 then (S.1 17) else (if what = 6 then (S.1 18) else (if what = 7 then (S.1 19) else (if what = 8 then (S.2.2.1 0) else (if what = 9 then (S.1 20) else (-2))))))))))))
set_option maxHeartbeats 1000000 in
set_option maxRecDepth 100000 in
theorem s_X3_number_0 (d : gD) (a : Nat → Nat) (what : Int32) (S : SS)   {X : gX} (E : gE d X RX3 cX3_number 2 R_X3_number) (RET : ∀ (pc_ : Nat) (lv_ : List (Nat × Value)) (v_ : Int32) (u_ : va_W), decode cX3_number pc_ = .ok (.ireturn, 1) → narrow .int (.int v_) = .int v_ → v_ = r_X3_number what S → u_ = SK d a S → G d X u_ R_X3_number.cells R_X3_number.slots pc_ lv_ [.int v_]) : G d X (SK d a S) 0 0 0 [(0, .ref (a 0)), (1, .int what)] [] := by
  refine g_iload_n E 1 dX3_number_0 rfl rfl ?_
  refine g_bipush E 10 dX3_number_1 (by decide) ?_
  refine g_icmplt E 25 dX3_number_3 (by decide) (fun c_3 => ?_) (fun c_3 => ?_)
  · skip
    refine g_iload_n E 1 dX3_number_25 rfl rfl ?_
    by_cases w_26_0 : what = 0
    · skip
      refine g_tableIn E 80 dX3_number_26 (by rw [w_26_0]; decide) (by rw [w_26_0]; decide) (by rw [w_26_0]; rfl) (by decide) ?_
      refine g_aload_n E 0 dX3_number_80 rfl rfl ?_
      refine g_get E (ci := 3) inlX3 4 rfl rfl 11 (by decide) fl_X3_68 rfl (.int (S.1 21)) rfl dX3_number_81 ?_
      exact RET 84 _ (S.1 21) _ dX3_number_84 rfl (by rw [r_X3_number, if_pos c_3, if_pos w_26_0]) rfl
    · skip
      by_cases w_26_1 : what = 1
      · skip
        refine g_tableIn E 85 dX3_number_26 (by rw [w_26_1]; decide) (by rw [w_26_1]; decide) (by rw [w_26_1]; rfl) (by decide) ?_
        refine g_aload_n E 0 dX3_number_85 rfl rfl ?_
        refine g_get E (ci := 3) inlX3 4 rfl rfl 4 (by decide) fl_X3_37 rfl (.int (S.1 9)) rfl dX3_number_86 ?_
        exact RET 89 _ (S.1 9) _ dX3_number_89 rfl (by rw [r_X3_number, if_pos c_3, if_neg w_26_0, if_pos w_26_1]) rfl
      · skip
        by_cases w_26_2 : what = 2
        · skip
          refine g_tableIn E 90 dX3_number_26 (by rw [w_26_2]; decide) (by rw [w_26_2]; decide) (by rw [w_26_2]; rfl) (by decide) ?_
          refine g_aload_n E 0 dX3_number_90 rfl rfl ?_
          refine g_get E (ci := 3) inlX3 4 rfl rfl 9 (by decide) fl_X3_62 rfl (.int (S.1 12)) rfl dX3_number_91 ?_
          exact RET 94 _ (S.1 12) _ dX3_number_94 rfl (by rw [r_X3_number, if_pos c_3, if_neg w_26_0, if_neg w_26_1, if_pos w_26_2]) rfl
        · skip
          by_cases w_26_3 : what = 3
          · skip
            refine g_tableIn E 95 dX3_number_26 (by rw [w_26_3]; decide) (by rw [w_26_3]; decide) (by rw [w_26_3]; rfl) (by decide) ?_
            refine g_aload_n E 0 dX3_number_95 rfl rfl ?_
            refine g_get E (ci := 3) inlX3 4 rfl rfl 10 (by decide) fl_X3_65 rfl (.int (S.1 13)) rfl dX3_number_96 ?_
            exact RET 99 _ (S.1 13) _ dX3_number_99 rfl (by rw [r_X3_number, if_pos c_3, if_neg w_26_0, if_neg w_26_1, if_neg w_26_2, if_pos w_26_3]) rfl
          · skip
            by_cases w_26_4 : what = 4
            · skip
              refine g_tableIn E 100 dX3_number_26 (by rw [w_26_4]; decide) (by rw [w_26_4]; decide) (by rw [w_26_4]; rfl) (by decide) ?_
              refine g_aload_n E 0 dX3_number_100 rfl rfl ?_
              refine g_get E (ci := 3) inlX3 4 rfl rfl 12 (by decide) fl_X3_71 rfl (.int (S.1 16)) rfl dX3_number_101 ?_
              exact RET 104 _ (S.1 16) _ dX3_number_104 rfl (by rw [r_X3_number, if_pos c_3, if_neg w_26_0, if_neg w_26_1, if_neg w_26_2, if_neg w_26_3, if_pos w_26_4]) rfl
            · skip
              by_cases w_26_5 : what = 5
              · skip
                refine g_tableIn E 105 dX3_number_26 (by rw [w_26_5]; decide) (by rw [w_26_5]; decide) (by rw [w_26_5]; rfl) (by decide) ?_
                refine g_aload_n E 0 dX3_number_105 rfl rfl ?_
                refine g_get E (ci := 3) inlX3 4 rfl rfl 13 (by decide) fl_X3_74 rfl (.int (S.1 17)) rfl dX3_number_106 ?_
                exact RET 109 _ (S.1 17) _ dX3_number_109 rfl (by rw [r_X3_number, if_pos c_3, if_neg w_26_0, if_neg w_26_1, if_neg w_26_2, if_neg w_26_3, if_neg w_26_4, if_pos w_26_5]) rfl
              · skip
                by_cases w_26_6 : what = 6
                · skip
                  refine g_tableIn E 110 dX3_number_26 (by rw [w_26_6]; decide) (by rw [w_26_6]; decide) (by rw [w_26_6]; rfl) (by decide) ?_
                  refine g_aload_n E 0 dX3_number_110 rfl rfl ?_
                  refine g_get E (ci := 3) inlX3 4 rfl rfl 14 (by decide) fl_X3_77 rfl (.int (S.1 18)) rfl dX3_number_111 ?_
                  exact RET 114 _ (S.1 18) _ dX3_number_114 rfl (by rw [r_X3_number, if_pos c_3, if_neg w_26_0, if_neg w_26_1, if_neg w_26_2, if_neg w_26_3, if_neg w_26_4, if_neg w_26_5, if_pos w_26_6]) rfl
                · skip
                  by_cases w_26_7 : what = 7
                  · skip
                    refine g_tableIn E 115 dX3_number_26 (by rw [w_26_7]; decide) (by rw [w_26_7]; decide) (by rw [w_26_7]; rfl) (by decide) ?_
                    refine g_aload_n E 0 dX3_number_115 rfl rfl ?_
                    refine g_get E (ci := 3) inlX3 4 rfl rfl 15 (by decide) fl_X3_80 rfl (.int (S.1 19)) rfl dX3_number_116 ?_
                    exact RET 119 _ (S.1 19) _ dX3_number_119 rfl (by rw [r_X3_number, if_pos c_3, if_neg w_26_0, if_neg w_26_1, if_neg w_26_2, if_neg w_26_3, if_neg w_26_4, if_neg w_26_5, if_neg w_26_6, if_pos w_26_7]) rfl
                  · skip
                    by_cases w_26_8 : what = 8
                    · skip
                      refine g_tableIn E 120 dX3_number_26 (by rw [w_26_8]; decide) (by rw [w_26_8]; decide) (by rw [w_26_8]; rfl) (by decide) ?_
                      refine g_aload_n E 0 dX3_number_120 rfl rfl ?_
                      refine g_get E (ci := 3) inlX3 4 rfl rfl 1 (by decide) fl_X3_26 rfl (.ref (a 2)) rfl dX3_number_121 ?_
                      refine g_getN E (ci := 0) inlX0 0 rfl rfl 3 (by decide) (List.mem_of_getElem? (i := 1) rfl) rfl (.int (S.2.2.1 0)) rfl dX3_number_124 ?_
                      exact RET 127 _ (S.2.2.1 0) _ dX3_number_127 rfl (by rw [r_X3_number, if_pos c_3, if_neg w_26_0, if_neg w_26_1, if_neg w_26_2, if_neg w_26_3, if_neg w_26_4, if_neg w_26_5, if_neg w_26_6, if_neg w_26_7, if_pos w_26_8]) rfl
                    · skip
                      by_cases w_26_9 : what = 9
                      · skip
                        refine g_tableIn E 128 dX3_number_26 (by rw [w_26_9]; decide) (by rw [w_26_9]; decide) (by rw [w_26_9]; rfl) (by decide) ?_
                        refine g_aload_n E 0 dX3_number_128 rfl rfl ?_
                        refine g_get E (ci := 3) inlX3 4 rfl rfl 16 (by decide) fl_X3_83 rfl (.int (S.1 20)) rfl dX3_number_129 ?_
                        exact RET 132 _ (S.1 20) _ dX3_number_132 rfl (by rw [r_X3_number, if_pos c_3, if_neg w_26_0, if_neg w_26_1, if_neg w_26_2, if_neg w_26_3, if_neg w_26_4, if_neg w_26_5, if_neg w_26_6, if_neg w_26_7, if_neg w_26_8, if_pos w_26_9]) rfl
                      · skip
                        refine g_tableOut E 133 dX3_number_26 (by have z0 := lv_neT (x := what) (k := 0) (a := 0) w_26_0 (by decide); have z1 := lv_neT (x := what) (k := 1) (a := 1) w_26_1 (by decide); have z2 := lv_neT (x := what) (k := 2) (a := 2) w_26_2 (by decide); have z3 := lv_neT (x := what) (k := 3) (a := 3) w_26_3 (by decide); have z4 := lv_neT (x := what) (k := 4) (a := 4) w_26_4 (by decide); have z5 := lv_neT (x := what) (k := 5) (a := 5) w_26_5 (by decide); have z6 := lv_neT (x := what) (k := 6) (a := 6) w_26_6 (by decide); have z7 := lv_neT (x := what) (k := 7) (a := 7) w_26_7 (by decide); have z8 := lv_neT (x := what) (k := 8) (a := 8) w_26_8 (by decide); have z9 := lv_neT (x := what) (k := 9) (a := 9) w_26_9 (by decide); omega) (by decide) ?_
                        refine g_bipush E (-2) dX3_number_133 (by decide) ?_
                        exact RET 135 _ (-2) _ dX3_number_135 rfl (by rw [r_X3_number, if_pos c_3, if_neg w_26_0, if_neg w_26_1, if_neg w_26_2, if_neg w_26_3, if_neg w_26_4, if_neg w_26_5, if_neg w_26_6, if_neg w_26_7, if_neg w_26_8, if_neg w_26_9]) rfl
  · skip
    refine g_iload_n E 1 dX3_number_6 rfl rfl ?_
    refine g_bipush E 10 dX3_number_7 (by decide) ?_
    refine g_isub E dX3_number_9 ?_
    refine g_bipush E 7 dX3_number_10 (by decide) ?_
    refine g_icmpge E 25 dX3_number_12 (by decide) (fun c_12 => ?_) (fun c_12 => ?_)
    · skip
      refine g_iload_n E 1 dX3_number_25 rfl rfl ?_
      by_cases w_26_0 : what = 0
      · skip
        refine g_tableIn E 80 dX3_number_26 (by rw [w_26_0]; decide) (by rw [w_26_0]; decide) (by rw [w_26_0]; rfl) (by decide) ?_
        refine g_aload_n E 0 dX3_number_80 rfl rfl ?_
        refine g_get E (ci := 3) inlX3 4 rfl rfl 11 (by decide) fl_X3_68 rfl (.int (S.1 21)) rfl dX3_number_81 ?_
        exact RET 84 _ (S.1 21) _ dX3_number_84 rfl (by rw [r_X3_number, if_neg c_3, if_neg c_12, if_pos w_26_0]) rfl
      · skip
        by_cases w_26_1 : what = 1
        · skip
          refine g_tableIn E 85 dX3_number_26 (by rw [w_26_1]; decide) (by rw [w_26_1]; decide) (by rw [w_26_1]; rfl) (by decide) ?_
          refine g_aload_n E 0 dX3_number_85 rfl rfl ?_
          refine g_get E (ci := 3) inlX3 4 rfl rfl 4 (by decide) fl_X3_37 rfl (.int (S.1 9)) rfl dX3_number_86 ?_
          exact RET 89 _ (S.1 9) _ dX3_number_89 rfl (by rw [r_X3_number, if_neg c_3, if_neg c_12, if_neg w_26_0, if_pos w_26_1]) rfl
        · skip
          by_cases w_26_2 : what = 2
          · skip
            refine g_tableIn E 90 dX3_number_26 (by rw [w_26_2]; decide) (by rw [w_26_2]; decide) (by rw [w_26_2]; rfl) (by decide) ?_
            refine g_aload_n E 0 dX3_number_90 rfl rfl ?_
            refine g_get E (ci := 3) inlX3 4 rfl rfl 9 (by decide) fl_X3_62 rfl (.int (S.1 12)) rfl dX3_number_91 ?_
            exact RET 94 _ (S.1 12) _ dX3_number_94 rfl (by rw [r_X3_number, if_neg c_3, if_neg c_12, if_neg w_26_0, if_neg w_26_1, if_pos w_26_2]) rfl
          · skip
            by_cases w_26_3 : what = 3
            · skip
              refine g_tableIn E 95 dX3_number_26 (by rw [w_26_3]; decide) (by rw [w_26_3]; decide) (by rw [w_26_3]; rfl) (by decide) ?_
              refine g_aload_n E 0 dX3_number_95 rfl rfl ?_
              refine g_get E (ci := 3) inlX3 4 rfl rfl 10 (by decide) fl_X3_65 rfl (.int (S.1 13)) rfl dX3_number_96 ?_
              exact RET 99 _ (S.1 13) _ dX3_number_99 rfl (by rw [r_X3_number, if_neg c_3, if_neg c_12, if_neg w_26_0, if_neg w_26_1, if_neg w_26_2, if_pos w_26_3]) rfl
            · skip
              by_cases w_26_4 : what = 4
              · skip
                refine g_tableIn E 100 dX3_number_26 (by rw [w_26_4]; decide) (by rw [w_26_4]; decide) (by rw [w_26_4]; rfl) (by decide) ?_
                refine g_aload_n E 0 dX3_number_100 rfl rfl ?_
                refine g_get E (ci := 3) inlX3 4 rfl rfl 12 (by decide) fl_X3_71 rfl (.int (S.1 16)) rfl dX3_number_101 ?_
                exact RET 104 _ (S.1 16) _ dX3_number_104 rfl (by rw [r_X3_number, if_neg c_3, if_neg c_12, if_neg w_26_0, if_neg w_26_1, if_neg w_26_2, if_neg w_26_3, if_pos w_26_4]) rfl
              · skip
                by_cases w_26_5 : what = 5
                · skip
                  refine g_tableIn E 105 dX3_number_26 (by rw [w_26_5]; decide) (by rw [w_26_5]; decide) (by rw [w_26_5]; rfl) (by decide) ?_
                  refine g_aload_n E 0 dX3_number_105 rfl rfl ?_
                  refine g_get E (ci := 3) inlX3 4 rfl rfl 13 (by decide) fl_X3_74 rfl (.int (S.1 17)) rfl dX3_number_106 ?_
                  exact RET 109 _ (S.1 17) _ dX3_number_109 rfl (by rw [r_X3_number, if_neg c_3, if_neg c_12, if_neg w_26_0, if_neg w_26_1, if_neg w_26_2, if_neg w_26_3, if_neg w_26_4, if_pos w_26_5]) rfl
                · skip
                  by_cases w_26_6 : what = 6
                  · skip
                    refine g_tableIn E 110 dX3_number_26 (by rw [w_26_6]; decide) (by rw [w_26_6]; decide) (by rw [w_26_6]; rfl) (by decide) ?_
                    refine g_aload_n E 0 dX3_number_110 rfl rfl ?_
                    refine g_get E (ci := 3) inlX3 4 rfl rfl 14 (by decide) fl_X3_77 rfl (.int (S.1 18)) rfl dX3_number_111 ?_
                    exact RET 114 _ (S.1 18) _ dX3_number_114 rfl (by rw [r_X3_number, if_neg c_3, if_neg c_12, if_neg w_26_0, if_neg w_26_1, if_neg w_26_2, if_neg w_26_3, if_neg w_26_4, if_neg w_26_5, if_pos w_26_6]) rfl
                  · skip
                    by_cases w_26_7 : what = 7
                    · skip
                      refine g_tableIn E 115 dX3_number_26 (by rw [w_26_7]; decide) (by rw [w_26_7]; decide) (by rw [w_26_7]; rfl) (by decide) ?_
                      refine g_aload_n E 0 dX3_number_115 rfl rfl ?_
                      refine g_get E (ci := 3) inlX3 4 rfl rfl 15 (by decide) fl_X3_80 rfl (.int (S.1 19)) rfl dX3_number_116 ?_
                      exact RET 119 _ (S.1 19) _ dX3_number_119 rfl (by rw [r_X3_number, if_neg c_3, if_neg c_12, if_neg w_26_0, if_neg w_26_1, if_neg w_26_2, if_neg w_26_3, if_neg w_26_4, if_neg w_26_5, if_neg w_26_6, if_pos w_26_7]) rfl
                    · skip
                      by_cases w_26_8 : what = 8
                      · skip
                        refine g_tableIn E 120 dX3_number_26 (by rw [w_26_8]; decide) (by rw [w_26_8]; decide) (by rw [w_26_8]; rfl) (by decide) ?_
                        refine g_aload_n E 0 dX3_number_120 rfl rfl ?_
                        refine g_get E (ci := 3) inlX3 4 rfl rfl 1 (by decide) fl_X3_26 rfl (.ref (a 2)) rfl dX3_number_121 ?_
                        refine g_getN E (ci := 0) inlX0 0 rfl rfl 3 (by decide) (List.mem_of_getElem? (i := 1) rfl) rfl (.int (S.2.2.1 0)) rfl dX3_number_124 ?_
                        exact RET 127 _ (S.2.2.1 0) _ dX3_number_127 rfl (by rw [r_X3_number, if_neg c_3, if_neg c_12, if_neg w_26_0, if_neg w_26_1, if_neg w_26_2, if_neg w_26_3, if_neg w_26_4, if_neg w_26_5, if_neg w_26_6, if_neg w_26_7, if_pos w_26_8]) rfl
                      · skip
                        by_cases w_26_9 : what = 9
                        · skip
                          refine g_tableIn E 128 dX3_number_26 (by rw [w_26_9]; decide) (by rw [w_26_9]; decide) (by rw [w_26_9]; rfl) (by decide) ?_
                          refine g_aload_n E 0 dX3_number_128 rfl rfl ?_
                          refine g_get E (ci := 3) inlX3 4 rfl rfl 16 (by decide) fl_X3_83 rfl (.int (S.1 20)) rfl dX3_number_129 ?_
                          exact RET 132 _ (S.1 20) _ dX3_number_132 rfl (by rw [r_X3_number, if_neg c_3, if_neg c_12, if_neg w_26_0, if_neg w_26_1, if_neg w_26_2, if_neg w_26_3, if_neg w_26_4, if_neg w_26_5, if_neg w_26_6, if_neg w_26_7, if_neg w_26_8, if_pos w_26_9]) rfl
                        · skip
                          refine g_tableOut E 133 dX3_number_26 (by have z0 := lv_neT (x := what) (k := 0) (a := 0) w_26_0 (by decide); have z1 := lv_neT (x := what) (k := 1) (a := 1) w_26_1 (by decide); have z2 := lv_neT (x := what) (k := 2) (a := 2) w_26_2 (by decide); have z3 := lv_neT (x := what) (k := 3) (a := 3) w_26_3 (by decide); have z4 := lv_neT (x := what) (k := 4) (a := 4) w_26_4 (by decide); have z5 := lv_neT (x := what) (k := 5) (a := 5) w_26_5 (by decide); have z6 := lv_neT (x := what) (k := 6) (a := 6) w_26_6 (by decide); have z7 := lv_neT (x := what) (k := 7) (a := 7) w_26_7 (by decide); have z8 := lv_neT (x := what) (k := 8) (a := 8) w_26_8 (by decide); have z9 := lv_neT (x := what) (k := 9) (a := 9) w_26_9 (by decide); omega) (by decide) ?_
                          refine g_bipush E (-2) dX3_number_133 (by decide) ?_
                          exact RET 135 _ (-2) _ dX3_number_135 rfl (by rw [r_X3_number, if_neg c_3, if_neg c_12, if_neg w_26_0, if_neg w_26_1, if_neg w_26_2, if_neg w_26_3, if_neg w_26_4, if_neg w_26_5, if_neg w_26_6, if_neg w_26_7, if_neg w_26_8, if_neg w_26_9]) rfl
    · skip
      refine g_aload_n E 0 dX3_number_15 rfl rfl ?_
      refine g_get E (ci := 3) inlX3 4 rfl rfl 0 (by decide) fl_X3_18 rfl (.ref (a 1)) rfl dX3_number_16 ?_
      refine g_iload_n E 1 dX3_number_19 rfl rfl ?_
      refine g_bipush E 10 dX3_number_20 (by decide) ?_
      refine g_isub E dX3_number_22 ?_
      refine g_iald E 5 rfl rfl ((what - 10).toNatClampNeg) (ix_eq (ix_sub10 c_3 c_12)) (ix_lt (N := 7) (ix_sub10 c_3 c_12) c_12) (by decide) dX3_number_23 ?_
      exact RET 24 _ (S.2.1 ((what - 10).toNatClampNeg)) _ dX3_number_24 rfl (by rw [r_X3_number, if_neg c_3, if_pos c_12]) rfl
set_option maxHeartbeats 1000000 in
set_option maxRecDepth 100000 in
theorem t_X3_number (d : gD) (a : Nat → Nat) (what : Int32) (S : SS)  : gMi d yX3_number cX3_number 2 (some .int) R_X3_number [.ref (a 0), .int what] (SK d a S) (fun r_ u_ => r_ = r_X3_number what S ∧ u_ = SK d a S) :=
  g_met_i RX3 rfl (by decide +kernel) (Nat.le_of_ble_eq_true rfl) [(0, .ref (a 0)), (1, .int what)] rfl (fun X E RET => s_X3_number_0 d a what S  E (fun pc_ lv_ v_ u_ h1_ h2_ h3_ h4_ => RET pc_ lv_ v_ u_ h1_ h2_ ⟨h3_, h4_⟩))
abbrev R_X3_changeSetting : Room := { frames := 0, cells := 0, slots := 0, locals := 0 }
def j_X3_changeSetting_47_g (setting : Int32) (value : Int32) (S : SS) : Nat → Int32 := if setting < 0 then (upd S.1 9 ((upd S.2.1 ((setting).toNatClampNeg) value) 1)) else (if setting < 7 then (if setting = 1 then (upd S.1 9 ((upd S.2.1 ((setting).toNatClampNeg) value) 1)) else (if setting = 2 then (upd S.1 9 ((upd S.2.1 ((setting).toNatClampNeg) value) 1)) else S.1)) else (upd S.1 9 ((upd S.2.1 ((setting).toNatClampNeg) value) 1)))
def r_X3_changeSetting_at47 (setting : Int32) (value : Int32) (S : SS) : Int32 := (S.2.1 ((setting).toNatClampNeg))
def c_X3_changeSetting_at47 (setting : Int32) (value : Int32) (S : SS) : SS := ((j_X3_changeSetting_47_g setting value S), upd S.2.1 ((setting).toNatClampNeg) value, S.2.2)
def r_X3_changeSetting (setting : Int32) (value : Int32) (S : SS) : Int32 := if setting < 0 then (-2) else (if setting < 7 then (r_X3_changeSetting_at47 setting value S) else (-2))
def c_X3_changeSetting (setting : Int32) (value : Int32) (S : SS) : SS := if setting < 0 then S else (if setting < 7 then (c_X3_changeSetting_at47 setting value S) else S)
set_option maxHeartbeats 1000000 in
set_option maxRecDepth 100000 in
theorem s_X3_changeSetting_47 (d : gD) (a : Nat → Nat) (setting : Int32) (value : Int32) (S : SS)   {X : gX} (E : gE d X RX3 cX3_changeSetting 4 R_X3_changeSetting) (RET : ∀ (pc_ : Nat) (lv_ : List (Nat × Value)) (v_ : Int32) (u_ : va_W), decode cX3_changeSetting pc_ = .ok (.ireturn, 1) → narrow .int (.int v_) = .int v_ → v_ = r_X3_changeSetting_at47 setting value S → u_ = SK d a (c_X3_changeSetting_at47 setting value S) → G d X u_ R_X3_changeSetting.cells R_X3_changeSetting.slots pc_ lv_ [.int v_]) : G d X (SK d a ((j_X3_changeSetting_47_g setting value S), upd S.2.1 ((setting).toNatClampNeg) value, S.2.2)) 0 0 47 [(0, .ref (a 0)), (1, .int setting), (2, .int value), (3, .int (S.2.1 ((setting).toNatClampNeg)))] [] := by
  obtain ⟨J1_, hJ1_⟩ : ∃ z, j_X3_changeSetting_47_g setting value S = z := ⟨_, rfl⟩
  rw [hJ1_]
  refine g_iload_n E 3 dX3_changeSetting_47 rfl rfl ?_
  subst hJ1_
  exact RET 48 _ (S.2.1 ((setting).toNatClampNeg)) _ dX3_changeSetting_48 rfl (by rw [r_X3_changeSetting_at47]) (by rw [c_X3_changeSetting_at47])
set_option maxHeartbeats 1000000 in
set_option maxRecDepth 100000 in
theorem s_X3_changeSetting_0 (d : gD) (a : Nat → Nat) (setting : Int32) (value : Int32) (S : SS)   {X : gX} (E : gE d X RX3 cX3_changeSetting 4 R_X3_changeSetting) (RET : ∀ (pc_ : Nat) (lv_ : List (Nat × Value)) (v_ : Int32) (u_ : va_W), decode cX3_changeSetting pc_ = .ok (.ireturn, 1) → narrow .int (.int v_) = .int v_ → v_ = r_X3_changeSetting setting value S → u_ = SK d a (c_X3_changeSetting setting value S) → G d X u_ R_X3_changeSetting.cells R_X3_changeSetting.slots pc_ lv_ [.int v_]) : G d X (SK d a S) 0 0 0 [(0, .ref (a 0)), (1, .int setting), (2, .int value)] [] := by
  refine g_iload_n E 1 dX3_changeSetting_0 rfl rfl ?_
  refine g_iflt E 10 dX3_changeSetting_1 (by decide) (fun c_1 => ?_) (fun c_1 => ?_)
  · skip
    refine g_bipush E (-2) dX3_changeSetting_10 (by decide) ?_
    exact RET 12 _ (-2) _ dX3_changeSetting_12 rfl (by rw [r_X3_changeSetting, if_pos c_1]) (by rw [c_X3_changeSetting, if_pos c_1])
  · skip
    refine g_iload_n E 1 dX3_changeSetting_4 rfl rfl ?_
    refine g_bipush E 7 dX3_changeSetting_5 (by decide) ?_
    refine g_icmplt E 13 dX3_changeSetting_7 (by decide) (fun c_7 => ?_) (fun c_7 => ?_)
    · skip
      refine g_aload_n E 0 dX3_changeSetting_13 rfl rfl ?_
      refine g_get E (ci := 3) inlX3 4 rfl rfl 0 (by decide) fl_X3_18 rfl (.ref (a 1)) rfl dX3_changeSetting_14 ?_
      refine g_iload_n E 1 dX3_changeSetting_17 rfl rfl ?_
      refine g_iald E 5 rfl rfl ((setting).toNatClampNeg) (ix_eq c_1) (ix_lt (N := 7) c_1 c_7) (by decide) dX3_changeSetting_18 ?_
      refine g_istore_n E (lv' := [(3, .int (S.2.1 ((setting).toNatClampNeg))), (0, .ref (a 0)), (1, .int setting), (2, .int value)]) dX3_changeSetting_19 rfl (by decide) rfl ?_
      refine g_aload_n E 1 dX3_changeSetting_20 rfl rfl ?_
      refine g_get E (ci := 3) inlX3 4 rfl rfl 0 (by decide) fl_X3_18 rfl (.ref (a 1)) rfl dX3_changeSetting_21 ?_
      refine g_iload_n E 2 dX3_changeSetting_24 rfl rfl ?_
      refine g_iload_n E 3 dX3_changeSetting_25 rfl rfl ?_
      refine g_iast E 5 rfl rfl ((setting).toNatClampNeg) (ix_eq c_1) (ix_lt (N := 7) c_1 c_7) (by decide) (ws' := SK d a (S.1, upd S.2.1 ((setting).toNatClampNeg) value, S.2.2)) rfl dX3_changeSetting_26 ?_
      refine g_iload_n E 2 dX3_changeSetting_27 rfl rfl ?_
      refine g_iconst E 1 dX3_changeSetting_28 (by decide) ?_
      refine g_icmpeq E 37 dX3_changeSetting_29 (by decide) (fun c_29 => ?_) (fun c_29 => ?_)
      · skip
        refine g_aload_n E 1 dX3_changeSetting_37 rfl rfl ?_
        refine g_aload_n E 1 dX3_changeSetting_38 rfl rfl ?_
        refine g_get E (ci := 3) inlX3 4 rfl rfl 0 (by decide) fl_X3_18 rfl (.ref (a 1)) rfl dX3_changeSetting_39 ?_
        refine g_iconst E 1 dX3_changeSetting_42 (by decide) ?_
        refine g_iald E 5 rfl rfl 1 rfl (by decide) (by decide) dX3_changeSetting_43 ?_
        refine g_top (b := (upd S.2.1 ((setting).toNatClampNeg) value) 1) rfl ?_
        refine g_put E (ci := 3) inlX3 4 rfl rfl 4 (by decide) tyX3 tyX3_ok nmX3 fl_X3_37 rfl rfl rfl rfl (ok_lt rfl) (ws' := SK d a (upd S.1 9 ((upd S.2.1 ((setting).toNatClampNeg) value) 1), upd S.2.1 ((setting).toNatClampNeg) value, S.2.2)) rfl dX3_changeSetting_44 ?_
        refine g_lvs (lv' := [(0, .ref (a 0)), (1, .int setting), (2, .int value), (3, .int (S.2.1 ((setting).toNatClampNeg)))]) [1, 2, 3, 0] rfl ?_
        have J := s_X3_changeSetting_47 d a setting value S   E (fun pc_ lv_ v_ u_ h1_ h2_ h3_ h4_ => RET pc_ lv_ v_ u_ h1_ h2_ (h3_.trans (by rw [r_X3_changeSetting, if_neg c_1, if_pos c_7])) (h4_.trans (by rw [c_X3_changeSetting, if_neg c_1, if_pos c_7])))
        rw [j_X3_changeSetting_47_g, if_neg c_1, if_pos c_7, if_pos c_29] at J
        exact J
      · skip
        refine g_iload_n E 2 dX3_changeSetting_32 rfl rfl ?_
        refine g_iconst E 2 dX3_changeSetting_33 (by decide) ?_
        refine g_icmpne E 47 dX3_changeSetting_34 (by decide) (fun c_34 => ?_) (fun c_34 => ?_)
        · skip
          refine g_lvs (lv' := [(0, .ref (a 0)), (1, .int setting), (2, .int value), (3, .int (S.2.1 ((setting).toNatClampNeg)))]) [1, 2, 3, 0] rfl ?_
          have J := s_X3_changeSetting_47 d a setting value S   E (fun pc_ lv_ v_ u_ h1_ h2_ h3_ h4_ => RET pc_ lv_ v_ u_ h1_ h2_ (h3_.trans (by rw [r_X3_changeSetting, if_neg c_1, if_pos c_7])) (h4_.trans (by rw [c_X3_changeSetting, if_neg c_1, if_pos c_7])))
          rw [j_X3_changeSetting_47_g, if_neg c_1, if_pos c_7, if_neg c_29, if_neg c_34] at J
          exact J
        · skip
          refine g_aload_n E 1 dX3_changeSetting_37 rfl rfl ?_
          refine g_aload_n E 1 dX3_changeSetting_38 rfl rfl ?_
          refine g_get E (ci := 3) inlX3 4 rfl rfl 0 (by decide) fl_X3_18 rfl (.ref (a 1)) rfl dX3_changeSetting_39 ?_
          refine g_iconst E 1 dX3_changeSetting_42 (by decide) ?_
          refine g_iald E 5 rfl rfl 1 rfl (by decide) (by decide) dX3_changeSetting_43 ?_
          refine g_top (b := (upd S.2.1 ((setting).toNatClampNeg) value) 1) rfl ?_
          refine g_put E (ci := 3) inlX3 4 rfl rfl 4 (by decide) tyX3 tyX3_ok nmX3 fl_X3_37 rfl rfl rfl rfl (ok_lt rfl) (ws' := SK d a (upd S.1 9 ((upd S.2.1 ((setting).toNatClampNeg) value) 1), upd S.2.1 ((setting).toNatClampNeg) value, S.2.2)) rfl dX3_changeSetting_44 ?_
          refine g_lvs (lv' := [(0, .ref (a 0)), (1, .int setting), (2, .int value), (3, .int (S.2.1 ((setting).toNatClampNeg)))]) [1, 2, 3, 0] rfl ?_
          have J := s_X3_changeSetting_47 d a setting value S   E (fun pc_ lv_ v_ u_ h1_ h2_ h3_ h4_ => RET pc_ lv_ v_ u_ h1_ h2_ (h3_.trans (by rw [r_X3_changeSetting, if_neg c_1, if_pos c_7])) (h4_.trans (by rw [c_X3_changeSetting, if_neg c_1, if_pos c_7])))
          rw [j_X3_changeSetting_47_g, if_neg c_1, if_pos c_7, if_neg c_29, if_pos c_34] at J
          exact J
    · skip
      refine g_bipush E (-2) dX3_changeSetting_10 (by decide) ?_
      exact RET 12 _ (-2) _ dX3_changeSetting_12 rfl (by rw [r_X3_changeSetting, if_neg c_1, if_neg c_7]) (by rw [c_X3_changeSetting, if_neg c_1, if_neg c_7])
set_option maxHeartbeats 1000000 in
set_option maxRecDepth 100000 in
theorem t_X3_changeSetting (d : gD) (a : Nat → Nat) (setting : Int32) (value : Int32) (S : SS)  : gMi d yX3_changeSetting cX3_changeSetting 4 (some .int) R_X3_changeSetting [.ref (a 0), .int setting, .int value] (SK d a S) (fun r_ u_ => r_ = r_X3_changeSetting setting value S ∧ u_ = SK d a (c_X3_changeSetting setting value S)) :=
  g_met_i RX3 rfl (by decide +kernel) (Nat.le_of_ble_eq_true rfl) [(0, .ref (a 0)), (1, .int setting), (2, .int value)] rfl (fun X E RET => s_X3_changeSetting_0 d a setting value S  E (fun pc_ lv_ v_ u_ h1_ h2_ h3_ h4_ => RET pc_ lv_ v_ u_ h1_ h2_ ⟨h3_, h4_⟩))
abbrev R_X3_toMiddle : Room := { frames := 1, cells := 0, slots := 0, locals := 14 }
def r_X3_toMiddle (S : SS) : Int32 := ((iabs ((S.1 7) - 2048)) + (iabs ((S.1 8) - 2048)))
def c_X3_toMiddle (S : SS) : SS := (upd (upd (upd (upd S.1 7 2048) 8 2048) 9 (S.2.1 1)) 12 0, S.2)
set_option maxHeartbeats 1000000 in
set_option maxRecDepth 100000 in
theorem s_X3_toMiddle_0 (d : gD) (a : Nat → Nat) (S : SS)   {X : gX} (E : gE d X RX3 cX3_toMiddle 2 R_X3_toMiddle) (RET : ∀ (pc_ : Nat) (lv_ : List (Nat × Value)) (v_ : Int32) (u_ : va_W), decode cX3_toMiddle pc_ = .ok (.ireturn, 1) → narrow .int (.int v_) = .int v_ → v_ = r_X3_toMiddle S → u_ = SK d a (c_X3_toMiddle S) → G d X u_ R_X3_toMiddle.cells R_X3_toMiddle.slots pc_ lv_ [.int v_]) : G d X (SK d a S) 0 0 0 [(0, .ref (a 0))] [] := by
  refine g_aload_n E 0 dX3_toMiddle_0 rfl rfl ?_
  refine g_get E (ci := 3) inlX3 4 rfl rfl 2 (by decide) fl_X3_30 rfl (.int (S.1 7)) rfl dX3_toMiddle_1 ?_
  refine g_sipush E 2048 dX3_toMiddle_4 (by decide) ?_
  refine g_isub E dX3_toMiddle_7 ?_
  refine g_abs E ml_X3_86 (ok_le rfl) (ok_le rfl) (ok_le rfl) (ok_le rfl) dX3_toMiddle_8 ?_
  refine g_top (b := iabs ((S.1 7) - 2048)) rfl ?_
  refine g_aload_n E 0 dX3_toMiddle_11 rfl rfl ?_
  refine g_get E (ci := 3) inlX3 4 rfl rfl 3 (by decide) fl_X3_34 rfl (.int (S.1 8)) rfl dX3_toMiddle_12 ?_
  refine g_sipush E 2048 dX3_toMiddle_15 (by decide) ?_
  refine g_isub E dX3_toMiddle_18 ?_
  refine g_abs E ml_X3_86 (ok_le rfl) (ok_le rfl) (ok_le rfl) (ok_le rfl) dX3_toMiddle_19 ?_
  refine g_top (b := iabs ((S.1 8) - 2048)) rfl ?_
  refine g_iadd E dX3_toMiddle_22 ?_
  refine g_istore_n E (lv' := [(1, .int ((iabs ((S.1 7) - 2048)) + (iabs ((S.1 8) - 2048)))), (0, .ref (a 0))]) dX3_toMiddle_23 rfl (by decide) rfl ?_
  refine g_aload_n E 1 dX3_toMiddle_24 rfl rfl ?_
  refine g_sipush E 2048 dX3_toMiddle_25 (by decide) ?_
  refine g_put E (ci := 3) inlX3 4 rfl rfl 2 (by decide) tyX3 tyX3_ok nmX3 fl_X3_30 rfl rfl rfl rfl (ok_lt rfl) (ws' := SK d a (upd S.1 7 2048, S.2)) rfl dX3_toMiddle_28 ?_
  refine g_aload_n E 1 dX3_toMiddle_31 rfl rfl ?_
  refine g_sipush E 2048 dX3_toMiddle_32 (by decide) ?_
  refine g_put E (ci := 3) inlX3 4 rfl rfl 3 (by decide) tyX3 tyX3_ok nmX3 fl_X3_34 rfl rfl rfl rfl (ok_lt rfl) (ws' := SK d a (upd (upd S.1 7 2048) 8 2048, S.2)) rfl dX3_toMiddle_35 ?_
  refine g_aload_n E 1 dX3_toMiddle_38 rfl rfl ?_
  refine g_aload_n E 1 dX3_toMiddle_39 rfl rfl ?_
  refine g_get E (ci := 3) inlX3 4 rfl rfl 0 (by decide) fl_X3_18 rfl (.ref (a 1)) rfl dX3_toMiddle_40 ?_
  refine g_iconst E 1 dX3_toMiddle_43 (by decide) ?_
  refine g_iald E 5 rfl rfl 1 rfl (by decide) (by decide) dX3_toMiddle_44 ?_
  refine g_put E (ci := 3) inlX3 4 rfl rfl 4 (by decide) tyX3 tyX3_ok nmX3 fl_X3_37 rfl rfl rfl rfl (ok_lt rfl) (ws' := SK d a (upd (upd (upd S.1 7 2048) 8 2048) 9 (S.2.1 1), S.2)) rfl dX3_toMiddle_45 ?_
  refine g_aload_n E 1 dX3_toMiddle_48 rfl rfl ?_
  refine g_iconst E 0 dX3_toMiddle_49 (by decide) ?_
  refine g_put E (ci := 3) inlX3 4 rfl rfl 9 (by decide) tyX3 tyX3_ok nmX3 fl_X3_62 rfl rfl rfl rfl (ok_lt rfl) (ws' := SK d a (upd (upd (upd (upd S.1 7 2048) 8 2048) 9 (S.2.1 1)) 12 0, S.2)) rfl dX3_toMiddle_50 ?_
  refine g_iload_n E 0 dX3_toMiddle_53 rfl rfl ?_
  exact RET 54 _ ((iabs ((S.1 7) - 2048)) + (iabs ((S.1 8) - 2048))) _ dX3_toMiddle_54 rfl (by rw [r_X3_toMiddle]) (by rw [c_X3_toMiddle])
set_option maxHeartbeats 1000000 in
set_option maxRecDepth 100000 in
theorem t_X3_toMiddle (d : gD) (a : Nat → Nat) (S : SS)  : gMi d yX3_toMiddle cX3_toMiddle 2 (some .int) R_X3_toMiddle [.ref (a 0)] (SK d a S) (fun r_ u_ => r_ = r_X3_toMiddle S ∧ u_ = SK d a (c_X3_toMiddle S)) :=
  g_met_i RX3 rfl (by decide +kernel) (Nat.le_of_ble_eq_true rfl) [(0, .ref (a 0))] rfl (fun X E RET => s_X3_toMiddle_0 d a S  E (fun pc_ lv_ v_ u_ h1_ h2_ h3_ h4_ => RET pc_ lv_ v_ u_ h1_ h2_ ⟨h3_, h4_⟩))
end
section
abbrev R_X3_becomeLike : Room := { frames := 2, cells := 0, slots := 0, locals := 40 }
def c_X3_becomeLike_0 (S : SS) (T : SS) : SS := (upd (upd (upd (upd (upd (upd (upd (upd (upd (upd (upd (upd (upd (upd (upd S.1 7 (T.1 7)) 8 (T.1 8)) 9 (T.1 9)) 14 (T.1 14)) 15 (T.1 15)) 10 (T.1 10)) 11 (T.1 11)) 12 (T.1 12)) 13 (T.1 13)) 21 (T.1 21)) 16 (T.1 16)) 17 (T.1 17)) 18 (T.1 18)) 19 (T.1 19)) 20 (T.1 20), T.2.1, T.2.2)
set_option maxHeartbeats 1000000 in
set_option maxRecDepth 100000 in
theorem s_X3_becomeLike_0 (d : gD) (a : Nat → Nat) (b : Nat → Nat) (S : SS) (T : SS)   {X : gX} (E : gE d X RX3 cX3_becomeLike 2 R_X3_becomeLike) (RET : ∀ (pc_ : Nat) (lv_ : List (Nat × Value)) (u_ : va_W), decode cX3_becomeLike pc_ = .ok (.return_, 1) → u_ = SK d a (c_X3_becomeLike_0 S T) ++ (SK d b T) → G d X u_ R_X3_becomeLike.cells R_X3_becomeLike.slots pc_ lv_ []) : G d X (SK d a S ++ (SK d b T)) 0 0 0 [(0, .ref (a 0)), (1, .ref (b 0))] [] := by
  refine g_aload_n E 1 dX3_becomeLike_0 rfl rfl ?_
  refine g_get E (ci := 3) inlX3 10 rfl rfl 0 (by decide) fl_X3_18 rfl (.ref (b 1)) rfl dX3_becomeLike_1 ?_
  refine g_iconst E 0 dX3_becomeLike_4 (by decide) ?_
  refine g_aload_n E 0 dX3_becomeLike_5 rfl rfl ?_
  refine g_get E (ci := 3) inlX3 4 rfl rfl 0 (by decide) fl_X3_18 rfl (.ref (a 1)) rfl dX3_becomeLike_6 ?_
  refine g_iconst E 0 dX3_becomeLike_9 (by decide) ?_
  refine g_bipush E 7 dX3_becomeLike_10 (by decide) ?_
  refine g_copyAll E 11 5 rfl rfl rfl rfl rfl (by decide) ml_X3_40 (ok_le rfl) (ok_le rfl) (ws' := SK d a (S.1, T.2.1, S.2.2) ++ (SK d b T)) rfl dX3_becomeLike_12 ?_
  refine g_aload_n E 0 dX3_becomeLike_15 rfl rfl ?_
  refine g_get E (ci := 3) inlX3 4 rfl rfl 1 (by decide) fl_X3_26 rfl (.ref (a 2)) rfl dX3_becomeLike_16 ?_
  refine g_aload_n E 1 dX3_becomeLike_19 rfl rfl ?_
  refine g_get E (ci := 3) inlX3 10 rfl rfl 1 (by decide) fl_X3_26 rfl (.ref (b 2)) rfl dX3_becomeLike_20 ?_
  refine g_perm (ws' := (DK d a S.2.2 ++ DK d b T.2.2) ++ (SO d a S.1 T.2.1 ++ SO d b T.1 T.2.1)) (perm4 _ _ _ _) ?_
  refine g_callVvD E gc_X0_becomeLike ml_X3_46 (t2_X0_becomeLike d a b S.2.2 T.2.2 ) rfl (wr := SO d a S.1 T.2.1 ++ SO d b T.1 T.2.1) rfl (ci := 0) 0 rfl rfl rfl rfl (ok_le rfl) ⟨ok_le rfl, ok_le rfl, ok_le rfl, ok_le rfl⟩ rfl rfl dX3_becomeLike_23 ?_
  refine g_perm (ws' := (DK d a T.2.2 ++ SO d a S.1 T.2.1) ++ (DK d b T.2.2 ++ SO d b T.1 T.2.1)) (perm4 _ _ _ _) ?_
  refine g_eq (ws' := SK d a (S.1, T.2.1, T.2.2) ++ (SK d b T)) (SK_mk2 d a S.1 T.2.1 T.2.2 b T.1 T.2.1 T.2.2) ?_
  refine g_aload_n E 0 dX3_becomeLike_26 rfl rfl ?_
  refine g_aload_n E 1 dX3_becomeLike_27 rfl rfl ?_
  refine g_get E (ci := 3) inlX3 10 rfl rfl 2 (by decide) fl_X3_30 rfl (.int (T.1 7)) rfl dX3_becomeLike_28 ?_
  refine g_put E (ci := 3) inlX3 4 rfl rfl 2 (by decide) tyX3 tyX3_ok nmX3 fl_X3_30 rfl rfl rfl rfl (ok_lt rfl) (ws' := SK d a (upd S.1 7 (T.1 7), T.2.1, T.2.2) ++ (SK d b T)) rfl dX3_becomeLike_31 ?_
  refine g_aload_n E 0 dX3_becomeLike_34 rfl rfl ?_
  refine g_aload_n E 1 dX3_becomeLike_35 rfl rfl ?_
  refine g_get E (ci := 3) inlX3 10 rfl rfl 3 (by decide) fl_X3_34 rfl (.int (T.1 8)) rfl dX3_becomeLike_36 ?_
  refine g_put E (ci := 3) inlX3 4 rfl rfl 3 (by decide) tyX3 tyX3_ok nmX3 fl_X3_34 rfl rfl rfl rfl (ok_lt rfl) (ws' := SK d a (upd (upd S.1 7 (T.1 7)) 8 (T.1 8), T.2.1, T.2.2) ++ (SK d b T)) rfl dX3_becomeLike_39 ?_
  refine g_aload_n E 0 dX3_becomeLike_42 rfl rfl ?_
  refine g_aload_n E 1 dX3_becomeLike_43 rfl rfl ?_
  refine g_get E (ci := 3) inlX3 10 rfl rfl 4 (by decide) fl_X3_37 rfl (.int (T.1 9)) rfl dX3_becomeLike_44 ?_
  refine g_put E (ci := 3) inlX3 4 rfl rfl 4 (by decide) tyX3 tyX3_ok nmX3 fl_X3_37 rfl rfl rfl rfl (ok_lt rfl) (ws' := SK d a (upd (upd (upd S.1 7 (T.1 7)) 8 (T.1 8)) 9 (T.1 9), T.2.1, T.2.2) ++ (SK d b T)) rfl dX3_becomeLike_47 ?_
  refine g_aload_n E 0 dX3_becomeLike_50 rfl rfl ?_
  refine g_aload_n E 1 dX3_becomeLike_51 rfl rfl ?_
  refine g_get E (ci := 3) inlX3 10 rfl rfl 5 (by decide) fl_X3_50 rfl (.int (T.1 14)) rfl dX3_becomeLike_52 ?_
  refine g_put E (ci := 3) inlX3 4 rfl rfl 5 (by decide) tyX3 tyX3_ok nmX3 fl_X3_50 rfl rfl rfl rfl (ok_lt rfl) (ws' := SK d a (upd (upd (upd (upd S.1 7 (T.1 7)) 8 (T.1 8)) 9 (T.1 9)) 14 (T.1 14), T.2.1, T.2.2) ++ (SK d b T)) rfl dX3_becomeLike_55 ?_
  refine g_aload_n E 0 dX3_becomeLike_58 rfl rfl ?_
  refine g_aload_n E 1 dX3_becomeLike_59 rfl rfl ?_
  refine g_get E (ci := 3) inlX3 10 rfl rfl 6 (by decide) fl_X3_53 rfl (.int (T.1 15)) rfl dX3_becomeLike_60 ?_
  refine g_put E (ci := 3) inlX3 4 rfl rfl 6 (by decide) tyX3 tyX3_ok nmX3 fl_X3_53 rfl rfl rfl rfl (ok_lt rfl) (ws' := SK d a (upd (upd (upd (upd (upd S.1 7 (T.1 7)) 8 (T.1 8)) 9 (T.1 9)) 14 (T.1 14)) 15 (T.1 15), T.2.1, T.2.2) ++ (SK d b T)) rfl dX3_becomeLike_63 ?_
  refine g_aload_n E 0 dX3_becomeLike_66 rfl rfl ?_
  refine g_aload_n E 1 dX3_becomeLike_67 rfl rfl ?_
  refine g_get E (ci := 3) inlX3 10 rfl rfl 7 (by decide) fl_X3_56 rfl (.int (T.1 10)) rfl dX3_becomeLike_68 ?_
  refine g_put E (ci := 3) inlX3 4 rfl rfl 7 (by decide) tyX3 tyX3_ok nmX3 fl_X3_56 rfl rfl rfl rfl (ok_lt rfl) (ws' := SK d a (upd (upd (upd (upd (upd (upd S.1 7 (T.1 7)) 8 (T.1 8)) 9 (T.1 9)) 14 (T.1 14)) 15 (T.1 15)) 10 (T.1 10), T.2.1, T.2.2) ++ (SK d b T)) rfl dX3_becomeLike_71 ?_
  refine g_aload_n E 0 dX3_becomeLike_74 rfl rfl ?_
  refine g_aload_n E 1 dX3_becomeLike_75 rfl rfl ?_
  refine g_get E (ci := 3) inlX3 10 rfl rfl 8 (by decide) fl_X3_59 rfl (.int (T.1 11)) rfl dX3_becomeLike_76 ?_
  refine g_put E (ci := 3) inlX3 4 rfl rfl 8 (by decide) tyX3 tyX3_ok nmX3 fl_X3_59 rfl rfl rfl rfl (ok_lt rfl) (ws' := SK d a (upd (upd (upd (upd (upd (upd (upd S.1 7 (T.1 7)) 8 (T.1 8)) 9 (T.1 9)) 14 (T.1 14)) 15 (T.1 15)) 10 (T.1 10)) 11 (T.1 11), T.2.1, T.2.2) ++ (SK d b T)) rfl dX3_becomeLike_79 ?_
  refine g_aload_n E 0 dX3_becomeLike_82 rfl rfl ?_
  refine g_aload_n E 1 dX3_becomeLike_83 rfl rfl ?_
  refine g_get E (ci := 3) inlX3 10 rfl rfl 9 (by decide) fl_X3_62 rfl (.int (T.1 12)) rfl dX3_becomeLike_84 ?_
  refine g_put E (ci := 3) inlX3 4 rfl rfl 9 (by decide) tyX3 tyX3_ok nmX3 fl_X3_62 rfl rfl rfl rfl (ok_lt rfl) (ws' := SK d a (upd (upd (upd (upd (upd (upd (upd (upd S.1 7 (T.1 7)) 8 (T.1 8)) 9 (T.1 9)) 14 (T.1 14)) 15 (T.1 15)) 10 (T.1 10)) 11 (T.1 11)) 12 (T.1 12), T.2.1, T.2.2) ++ (SK d b T)) rfl dX3_becomeLike_87 ?_
  refine g_aload_n E 0 dX3_becomeLike_90 rfl rfl ?_
  refine g_aload_n E 1 dX3_becomeLike_91 rfl rfl ?_
  refine g_get E (ci := 3) inlX3 10 rfl rfl 10 (by decide) fl_X3_65 rfl (.int (T.1 13)) rfl dX3_becomeLike_92 ?_
  refine g_put E (ci := 3) inlX3 4 rfl rfl 10 (by decide) tyX3 tyX3_ok nmX3 fl_X3_65 rfl rfl rfl rfl (ok_lt rfl) (ws' := SK d a (upd (upd (upd (upd (upd (upd (upd (upd (upd S.1 7 (T.1 7)) 8 (T.1 8)) 9 (T.1 9)) 14 (T.1 14)) 15 (T.1 15)) 10 (T.1 10)) 11 (T.1 11)) 12 (T.1 12)) 13 (T.1 13), T.2.1, T.2.2) ++ (SK d b T)) rfl dX3_becomeLike_95 ?_
  refine g_aload_n E 0 dX3_becomeLike_98 rfl rfl ?_
  refine g_aload_n E 1 dX3_becomeLike_99 rfl rfl ?_
  refine g_get E (ci := 3) inlX3 10 rfl rfl 11 (by decide) fl_X3_68 rfl (.int (T.1 21)) rfl dX3_becomeLike_100 ?_
  refine g_put E (ci := 3) inlX3 4 rfl rfl 11 (by decide) tyX3 tyX3_ok nmX3 fl_X3_68 rfl rfl rfl rfl (ok_lt rfl) (ws' := SK d a (upd (upd (upd (upd (upd (upd (upd (upd (upd (upd S.1 7 (T.1 7)) 8 (T.1 8)) 9 (T.1 9)) 14 (T.1 14)) 15 (T.1 15)) 10 (T.1 10)) 11 (T.1 11)) 12 (T.1 12)) 13 (T.1 13)) 21 (T.1 21), T.2.1, T.2.2) ++ (SK d b T)) rfl dX3_becomeLike_103 ?_
  refine g_aload_n E 0 dX3_becomeLike_106 rfl rfl ?_
  refine g_aload_n E 1 dX3_becomeLike_107 rfl rfl ?_
  refine g_get E (ci := 3) inlX3 10 rfl rfl 12 (by decide) fl_X3_71 rfl (.int (T.1 16)) rfl dX3_becomeLike_108 ?_
  refine g_put E (ci := 3) inlX3 4 rfl rfl 12 (by decide) tyX3 tyX3_ok nmX3 fl_X3_71 rfl rfl rfl rfl (ok_lt rfl) (ws' := SK d a (upd (upd (upd (upd (upd (upd (upd (upd (upd (upd (upd S.1 7 (T.1 7)) 8 (T.1 8)) 9 (T.1 9)) 14 (T.1 14)) 15 (T.1 15)) 10 (T.1 10)) 11 (T.1 11)) 12 (T.1 12)) 13 (T.1 13)) 21 (T.1 21)) 16 (T.1 16), T.2.1, T.2.2) ++ (SK d b T)) rfl dX3_becomeLike_111 ?_
  refine g_aload_n E 0 dX3_becomeLike_114 rfl rfl ?_
  refine g_aload_n E 1 dX3_becomeLike_115 rfl rfl ?_
  refine g_get E (ci := 3) inlX3 10 rfl rfl 13 (by decide) fl_X3_74 rfl (.int (T.1 17)) rfl dX3_becomeLike_116 ?_
  refine g_put E (ci := 3) inlX3 4 rfl rfl 13 (by decide) tyX3 tyX3_ok nmX3 fl_X3_74 rfl rfl rfl rfl (ok_lt rfl) (ws' := SK d a (upd (upd (upd (upd (upd (upd (upd (upd (upd (upd (upd (upd S.1 7 (T.1 7)) 8 (T.1 8)) 9 (T.1 9)) 14 (T.1 14)) 15 (T.1 15)) 10 (T.1 10)) 11 (T.1 11)) 12 (T.1 12)) 13 (T.1 13)) 21 (T.1 21)) 16 (T.1 16)) 17 (T.1 17), T.2.1, T.2.2) ++ (SK d b T)) rfl dX3_becomeLike_119 ?_
  refine g_aload_n E 0 dX3_becomeLike_122 rfl rfl ?_
  refine g_aload_n E 1 dX3_becomeLike_123 rfl rfl ?_
  refine g_get E (ci := 3) inlX3 10 rfl rfl 14 (by decide) fl_X3_77 rfl (.int (T.1 18)) rfl dX3_becomeLike_124 ?_
  refine g_put E (ci := 3) inlX3 4 rfl rfl 14 (by decide) tyX3 tyX3_ok nmX3 fl_X3_77 rfl rfl rfl rfl (ok_lt rfl) (ws' := SK d a (upd (upd (upd (upd (upd (upd (upd (upd (upd (upd (upd (upd (upd S.1 7 (T.1 7)) 8 (T.1 8)) 9 (T.1 9)) 14 (T.1 14)) 15 (T.1 15)) 10 (T.1 10)) 11 (T.1 11)) 12 (T.1 12)) 13 (T.1 13)) 21 (T.1 21)) 16 (T.1 16)) 17 (T.1 17)) 18 (T.1 18), T.2.1, T.2.2) ++ (SK d b T)) rfl dX3_becomeLike_127 ?_
  refine g_aload_n E 0 dX3_becomeLike_130 rfl rfl ?_
  refine g_aload_n E 1 dX3_becomeLike_131 rfl rfl ?_
  refine g_get E (ci := 3) inlX3 10 rfl rfl 15 (by decide) fl_X3_80 rfl (.int (T.1 19)) rfl dX3_becomeLike_132 ?_
  refine g_put E (ci := 3) inlX3 4 rfl rfl 15 (by decide) tyX3 tyX3_ok nmX3 fl_X3_80 rfl rfl rfl rfl (ok_lt rfl) (ws' := SK d a (upd (upd (upd (upd (upd (upd (upd (upd (upd (upd (upd (upd (upd (upd S.1 7 (T.1 7)) 8 (T.1 8)) 9 (T.1 9)) 14 (T.1 14)) 15 (T.1 15)) 10 (T.1 10)) 11 (T.1 11)) 12 (T.1 12)) 13 (T.1 13)) 21 (T.1 21)) 16 (T.1 16)) 17 (T.1 17)) 18 (T.1 18)) 19 (T.1 19), T.2.1, T.2.2) ++ (SK d b T)) rfl dX3_becomeLike_135 ?_
  refine g_aload_n E 0 dX3_becomeLike_138 rfl rfl ?_
  refine g_aload_n E 1 dX3_becomeLike_139 rfl rfl ?_
  refine g_get E (ci := 3) inlX3 10 rfl rfl 16 (by decide) fl_X3_83 rfl (.int (T.1 20)) rfl dX3_becomeLike_140 ?_
  refine g_put E (ci := 3) inlX3 4 rfl rfl 16 (by decide) tyX3 tyX3_ok nmX3 fl_X3_83 rfl rfl rfl rfl (ok_lt rfl) (ws' := SK d a (upd (upd (upd (upd (upd (upd (upd (upd (upd (upd (upd (upd (upd (upd (upd S.1 7 (T.1 7)) 8 (T.1 8)) 9 (T.1 9)) 14 (T.1 14)) 15 (T.1 15)) 10 (T.1 10)) 11 (T.1 11)) 12 (T.1 12)) 13 (T.1 13)) 21 (T.1 21)) 16 (T.1 16)) 17 (T.1 17)) 18 (T.1 18)) 19 (T.1 19)) 20 (T.1 20), T.2.1, T.2.2) ++ (SK d b T)) rfl dX3_becomeLike_143 ?_
  exact RET 146 _ _ dX3_becomeLike_146 (by rw [c_X3_becomeLike_0])
set_option maxHeartbeats 1000000 in
set_option maxRecDepth 100000 in
theorem t_X3_becomeLike (d : gD) (a : Nat → Nat) (b : Nat → Nat) (S : SS) (T : SS)  : gMv d yX3_becomeLike cX3_becomeLike 2 R_X3_becomeLike [.ref (a 0), .ref (b 0)] (SK d a S ++ (SK d b T)) (fun u_ => u_ = SK d a (c_X3_becomeLike_0 S T) ++ (SK d b T)) :=
  g_met_v RX3 rfl (by decide +kernel) (Nat.le_of_ble_eq_true rfl) [(0, .ref (a 0)), (1, .ref (b 0))] rfl (fun X E _ RET => s_X3_becomeLike_0 d a b S T  E (fun pc_ lv_ u_ h1_ h2_ => RET pc_ lv_ u_ h1_ h2_))
theorem t2_X3_becomeLike (d : gD) (a : Nat → Nat) (b : Nat → Nat) (S : SS) (T : SS) : gMv d yX3_becomeLike cX3_becomeLike 2 R_X3_becomeLike [.ref (a 0), .ref (b 0)] (SK d a S ++ (SK d b T)) (fun u_ => u_ = SK d a T ++ (SK d b T)) := t_X3_becomeLike d a b S T
end
section
abbrev dfX0 : List Value := [.null, .null, .null, .int 0, .int 0, .int 0]
theorem dvX0 : ∀ j, j < 6 → defaultValue (tyX0 j) = vp_V dfX0 j := by
  intro j hj
  match j, hj with
  | 0, _ => rfl
  | 1, _ => rfl
  | 2, _ => rfl
  | 3, _ => rfl
  | 4, _ => rfl
  | 5, _ => rfl
  | _ + 6, h => exact absurd h (by omega)
abbrev dfX1 : List Value := [.null, .int 0, .int 0]
theorem dvX1 : ∀ j, j < 3 → defaultValue (tyX1 j) = vp_V dfX1 j := by
  intro j hj
  match j, hj with
  | 0, _ => rfl
  | 1, _ => rfl
  | 2, _ => rfl
  | _ + 3, h => exact absurd h (by omega)
abbrev dfX2 : List Value := [.null, .int 0, .int 0, .int 0, .int 0, .int 0, .int 0]
theorem dvX2 : ∀ j, j < 7 → defaultValue (tyX2 j) = vp_V dfX2 j := by
  intro j hj
  match j, hj with
  | 0, _ => rfl
  | 1, _ => rfl
  | 2, _ => rfl
  | 3, _ => rfl
  | 4, _ => rfl
  | 5, _ => rfl
  | 6, _ => rfl
  | _ + 7, h => exact absurd h (by omega)
abbrev dfX3 : List Value := [.null, .null, .int 0, .int 0, .int 0, .int 0, .int 0, .int 0, .int 0, .int 0, .int 0, .int 0, .int 0, .int 0, .int 0, .int 0, .int 0]
theorem dvX3 : ∀ j, j < 17 → defaultValue (tyX3 j) = vp_V dfX3 j := by
  intro j hj
  match j, hj with
  | 0, _ => rfl
  | 1, _ => rfl
  | 2, _ => rfl
  | 3, _ => rfl
  | 4, _ => rfl
  | 5, _ => rfl
  | 6, _ => rfl
  | 7, _ => rfl
  | 8, _ => rfl
  | 9, _ => rfl
  | 10, _ => rfl
  | 11, _ => rfl
  | 12, _ => rfl
  | 13, _ => rfl
  | 14, _ => rfl
  | 15, _ => rfl
  | 16, _ => rfl
  | _ + 17, h => exact absurd h (by omega)
abbrev dfX4 : List Value := [.null, .null, .null, .null, .null]
theorem dvX4 : ∀ j, j < 5 → defaultValue (tyX4 j) = vp_V dfX4 j := by
  intro j hj
  match j, hj with
  | 0, _ => rfl
  | 1, _ => rfl
  | 2, _ => rfl
  | 3, _ => rfl
  | 4, _ => rfl
  | _ + 5, h => exact absurd h (by omega)
theorem lr5 {α : Type} (a b c e f : List α) : (a ++ (b ++ (c ++ (e ++ f)))).Perm (f ++ (e ++ (c ++ (b ++ a)))) := by
  have h1 : (a ++ (b ++ (c ++ (e ++ f)))).Perm ((b ++ (c ++ (e ++ f))) ++ a) := List.perm_append_comm
  have h2 : (b ++ (c ++ (e ++ f))).Perm ((c ++ (e ++ f)) ++ b) := List.perm_append_comm
  have h3 : (c ++ (e ++ f)).Perm ((e ++ f) ++ c) := List.perm_append_comm
  have h4 : (e ++ f).Perm (f ++ e) := List.perm_append_comm
  have h5 := h4.append_right c
  have h6 := (h3.trans h5).append_right b
  have h7 := (h2.trans h6).append_right a
  have h8 := h1.trans h7
  simp only [List.append_assoc] at h8
  exact h8
def DD0 : DD := (fun k => match k with | 1 => -6 | _ => 0, fun _ => 0, fun _ => 0, fun _ => 0)
def S0 : SS := (fun k => match k with | 7 => 2048 | 8 => 2048 | 9 => 6 | _ => 0, tabF, DD0)
/-- History's own cells: the object, its row of sticks -/
def HB (d : gD) (e : Nat → Nat) (ol sz : Int32) (qf : Nat → Option Nat) : va_W := [(e 0, .inr (1, [.ref (e 1), .int ol, .int sz])), (e 1, .inl (d.2.2.2.2, 6, .inr (.inr (.inr (.inr qf)))))]
/-- sticks that there are, one by one -/
def PL (d : gD) (p : Nat → Nat → Nat) (s : Nat → Option SS) : Nat → va_W
  | 0 => []
  | n + 1 => PL d p s n ++ (match s n with | none => [] | some T => SK d (p n) T)
def qf (p : Nat → Nat → Nat) (s : Nat → Option SS) : Nat → Option Nat := fun j => (s j).map (fun _ => p j 0)
/-- the class's object and its row of slots -/
def XO (d : gD) (x a b c e : Nat → Nat) (q : Nat → Option Nat) : va_W := [(x 0, .inr (4, [.ref (a 0), .ref (b 0), .ref (c 0), .ref (e 0), .ref (x 1)])), (x 1, .inl (d.2.2.2.2, 2, .inr (.inr (.inr (.inr q)))))]
/-- addresses: the object, stick, trial, pad, history; the history's sticks, the slots' -/
abbrev AD : Type := (Nat → Nat) × (Nat → Nat) × (Nat → Nat) × (Nat → Nat) × (Nat → Nat)
/-- History's state: oldest, size, states -/
abbrev HS : Type := Nat × Nat × (Nat → Option SS)
def HP (d : gD) (e : Nat → Nat) (p : Nat → Nat → Nat) (h : HS) : va_W := HB d e (nI h.1) (nI h.2.1) (qf p h.2.2) ++ PL d p h.2.2 6
def XW (d : gD) (A : AD) (p q : Nat → Nat → Nat) (S T : SS) (h t : Nat → Int32) (y : HS) (ss : Nat → Option SS) : va_W := XO d A.1 A.2.1 A.2.2.1 A.2.2.2.1 A.2.2.2.2 (qf q ss) ++ (SK d A.2.1 S ++ (SK d A.2.2.1 T ++ (PK d A.2.2.2.1 h t ++ (HP d A.2.2.2.2 p y ++ PL d q ss 2))))
abbrev R_X0_init : Room := { frames := 1, cells := 3, slots := 27, locals := 12 }
set_option maxHeartbeats 2000000 in
set_option maxRecDepth 100000 in
theorem t_X0_init (d : gD) (q0 : Nat) : gMv d yX0_init cX0_init 1 R_X0_init [.ref q0] [(q0, .inr (0, dfX0))] (fun u => ∃ b : Nat → Nat, b 2 = q0 ∧ u = DK d b DD0) := by
  refine g_met_v RX0 rfl (by decide +kernel) (Nat.le_of_ble_eq_true rfl) [(0, .ref q0)] rfl (fun X E hi0 RET => ?_)
  have hi := hi0 rfl
  refine g_aload_n E 0 dX0_init_0 rfl rfl ?_
  refine g_objInit E ml_X0_3 (ok_le rfl) (ok_le rfl) dX0_init_1 ?_
  refine g_aload_n E 0 dX0_init_4 rfl rfl ?_
  refine g_bipush E 9 dX0_init_5 (by decide) ?_
  refine g_newi E ac_int rfl (N := 9) (by decide) (by decide) (ok_le rfl) (ok_le rfl) dX0_init_7 (fun r0 _ => ?_)
  refine g_eq (ws' := [(q0, .inr (0, [.null, .null, .null, .int 0, .int 0, .int 0])), (r0, .inl (d.2.1, 9, .inl (fun _ => 0)))]) rfl ?_
  refine g_putF E (ci := 0) inlX0 0 rfl rfl 0 (by decide) tyX0 tyX0_ok nmX0 hi fl_X0_9 rfl rfl rfl rfl rfl (ok_lt rfl) (ws' := [(q0, .inr (0, [.ref r0, .null, .null, .int 0, .int 0, .int 0])), (r0, .inl (d.2.1, 9, .inl (fun _ => 0)))]) rfl dX0_init_9 ?_
  refine g_aload_n E 0 dX0_init_12 rfl rfl ?_
  refine g_bipush E 9 dX0_init_13 (by decide) ?_
  refine g_newi E ac_int rfl (N := 9) (by decide) (by decide) (ok_le rfl) (ok_le rfl) dX0_init_15 (fun r1 _ => ?_)
  refine g_eq (ws' := [(q0, .inr (0, [.ref r0, .null, .null, .int 0, .int 0, .int 0])), (r0, .inl (d.2.1, 9, .inl (fun _ => 0))), (r1, .inl (d.2.1, 9, .inl (fun _ => 0)))]) rfl ?_
  refine g_putF E (ci := 0) inlX0 0 rfl rfl 1 (by decide) tyX0 tyX0_ok nmX0 hi fl_X0_15 rfl rfl rfl rfl rfl (ok_lt rfl) (ws' := [(q0, .inr (0, [.ref r0, .ref r1, .null, .int 0, .int 0, .int 0])), (r0, .inl (d.2.1, 9, .inl (fun _ => 0))), (r1, .inl (d.2.1, 9, .inl (fun _ => 0)))]) rfl dX0_init_17 ?_
  refine g_aload_n E 0 dX0_init_20 rfl rfl ?_
  refine g_bipush E 9 dX0_init_21 (by decide) ?_
  refine g_newi E ac_int rfl (N := 9) (by decide) (by decide) (ok_le rfl) (ok_le rfl) dX0_init_23 (fun r2 _ => ?_)
  refine g_eq (ws' := [(q0, .inr (0, [.ref r0, .ref r1, .null, .int 0, .int 0, .int 0])), (r0, .inl (d.2.1, 9, .inl (fun _ => 0))), (r1, .inl (d.2.1, 9, .inl (fun _ => 0))), (r2, .inl (d.2.1, 9, .inl (fun _ => 0)))]) rfl ?_
  refine g_putF E (ci := 0) inlX0 0 rfl rfl 2 (by decide) tyX0 tyX0_ok nmX0 hi fl_X0_18 rfl rfl rfl rfl rfl (ok_lt rfl) (ws' := [(q0, .inr (0, [.ref r0, .ref r1, .ref r2, .int 0, .int 0, .int 0])), (r0, .inl (d.2.1, 9, .inl (fun _ => 0))), (r1, .inl (d.2.1, 9, .inl (fun _ => 0))), (r2, .inl (d.2.1, 9, .inl (fun _ => 0)))]) rfl dX0_init_25 ?_
  refine g_aload_n E 0 dX0_init_28 rfl rfl ?_
  refine g_bipush E (-6) dX0_init_29 (by decide) ?_
  refine g_put E (ci := 0) inlX0 0 rfl rfl 4 (by decide) tyX0 tyX0_ok nmX0 fl_X0_21 rfl rfl rfl rfl (ok_lt rfl) (ws' := [(q0, .inr (0, [.ref r0, .ref r1, .ref r2, .int 0, .int (-6), .int 0])), (r0, .inl (d.2.1, 9, .inl (fun _ => 0))), (r1, .inl (d.2.1, 9, .inl (fun _ => 0))), (r2, .inl (d.2.1, 9, .inl (fun _ => 0)))]) rfl dX0_init_31 ?_
  exact RET 34 _ _ dX0_init_34 ⟨(fun k => match k with | 0 => q0 | 1 => q0 | 2 => q0 | 3 => r0 | 4 => r1 | _ => r2), rfl, rfl⟩
abbrev R_X1_init : Room := { frames := 1, cells := 1, slots := 6, locals := 12 }
set_option maxHeartbeats 2000000 in
set_option maxRecDepth 100000 in
theorem t_X1_init (d : gD) (q0 : Nat) : gMv d yX1_init cX1_init 1 R_X1_init [.ref q0] [(q0, .inr (1, dfX1))] (fun u => ∃ b : Nat → Nat, b 0 = q0 ∧ u = HB d b 0 0 (fun _ => none)) := by
  refine g_met_v RX1 rfl (by decide +kernel) (Nat.le_of_ble_eq_true rfl) [(0, .ref q0)] rfl (fun X E hi0 RET => ?_)
  have hi := hi0 rfl
  refine g_aload_n E 0 dX1_init_0 rfl rfl ?_
  refine g_objInit E ml_X1_3 (ok_le rfl) (ok_le rfl) dX1_init_1 ?_
  refine g_aload_n E 0 dX1_init_4 rfl rfl ?_
  refine g_bipush E 6 dX1_init_5 (by decide) ?_
  refine g_newq E cl_X1_9 rfl (N := 6) (by decide) (by decide) (ok_le rfl) (ok_le rfl) dX1_init_7 (fun r0 _ => ?_)
  refine g_eq (ws' := [(q0, .inr (1, [.null, .int 0, .int 0])), (r0, .inl (d.2.2.2.2, 6, .inr (.inr (.inr (.inr (fun _ => none))))))]) rfl ?_
  refine g_putF E (ci := 1) inlX1 0 rfl rfl 0 (by decide) tyX1 tyX1_ok nmX1 hi fl_X1_11 rfl rfl rfl rfl rfl (ok_lt rfl) (ws' := [(q0, .inr (1, [.ref r0, .int 0, .int 0])), (r0, .inl (d.2.2.2.2, 6, .inr (.inr (.inr (.inr (fun _ => none))))))]) rfl dX1_init_10 ?_
  exact RET 13 _ _ dX1_init_13 ⟨(fun k => match k with | 0 => q0 | _ => r0), rfl, rfl⟩
abbrev R_X2_init : Room := { frames := 1, cells := 1, slots := 80, locals := 12 }
set_option maxHeartbeats 2000000 in
set_option maxRecDepth 100000 in
theorem t_X2_init (d : gD) (q0 : Nat) : gMv d yX2_init cX2_init 1 R_X2_init [.ref q0] [(q0, .inr (2, dfX2))] (fun u => ∃ b : Nat → Nat, b 0 = q0 ∧ u = PK d b (fun _ => 0) (fun _ => 0)) := by
  refine g_met_v RX2 rfl (by decide +kernel) (Nat.le_of_ble_eq_true rfl) [(0, .ref q0)] rfl (fun X E hi0 RET => ?_)
  have hi := hi0 rfl
  refine g_aload_n E 0 dX2_init_0 rfl rfl ?_
  refine g_objInit E ml_X2_3 (ok_le rfl) (ok_le rfl) dX2_init_1 ?_
  refine g_aload_n E 0 dX2_init_4 rfl rfl ?_
  refine g_bipush E 80 dX2_init_5 (by decide) ?_
  refine g_newc E ac_char rfl (N := 80) (by decide) (by decide) (ok_le rfl) (ok_le rfl) dX2_init_7 (fun r0 _ => ?_)
  refine g_eq (ws' := [(q0, .inr (2, [.null, .int 0, .int 0, .int 0, .int 0, .int 0, .int 0])), (r0, .inl (d.2.2.1, 80, .inl (fun _ => 0)))]) rfl ?_
  refine g_putF E (ci := 2) inlX2 0 rfl rfl 0 (by decide) tyX2 tyX2_ok nmX2 hi fl_X2_9 rfl rfl rfl rfl rfl (ok_lt rfl) (ws' := [(q0, .inr (2, [.ref r0, .int 0, .int 0, .int 0, .int 0, .int 0, .int 0])), (r0, .inl (d.2.2.1, 80, .inl (fun _ => 0)))]) rfl dX2_init_9 ?_
  exact RET 12 _ _ dX2_init_12 ⟨(fun k => match k with | 0 => q0 | _ => r0), rfl, rfl⟩
abbrev R_X3_init : Room := { frames := 2, cells := 5, slots := 40, locals := 32 }
set_option maxHeartbeats 2000000 in
set_option maxRecDepth 100000 in
theorem t_X3_init (d : gD) (q0 : Nat) : gMv d yX3_init cX3_init 1 R_X3_init [.ref q0] [(q0, .inr (3, dfX3))] (fun u => ∃ b : Nat → Nat, b 0 = q0 ∧ u = SK d b S0) := by
  refine g_met_v RX3 rfl (by decide +kernel) (Nat.le_of_ble_eq_true rfl) [(0, .ref q0)] rfl (fun X E hi0 RET => ?_)
  have hi := hi0 rfl
  refine g_aload_n E 0 dX3_init_0 rfl rfl ?_
  refine g_objInit E ml_X3_3 (ok_le rfl) (ok_le rfl) dX3_init_1 ?_
  refine g_aload_n E 0 dX3_init_4 rfl rfl ?_
  refine g_getsF E (List.mem_of_getElem? (i := 0) rfl) dX3_init_5 (fun tF hTF => ?_)
  refine g_cloneF E hTF ml_X3_13 (ok_le rfl) (ok_le rfl) (ok_le rfl) (ok_le rfl) dX3_init_8 (fun r0 _ => ?_)
  refine g_eq (ws' := [(q0, .inr (3, [.null, .null, .int 0, .int 0, .int 0, .int 0, .int 0, .int 0, .int 0, .int 0, .int 0, .int 0, .int 0, .int 0, .int 0, .int 0, .int 0])), (r0, .inl (d.2.1, 7, .inl tabF))]) rfl ?_
  refine g_castI E 1 rfl hTF cl_X3_14 dX3_init_11 ?_
  refine g_putF E (ci := 3) inlX3 0 rfl rfl 0 (by decide) tyX3 tyX3_ok nmX3 hi fl_X3_18 rfl rfl rfl rfl rfl (ok_lt rfl) (ws' := [(q0, .inr (3, [.ref r0, .null, .int 0, .int 0, .int 0, .int 0, .int 0, .int 0, .int 0, .int 0, .int 0, .int 0, .int 0, .int 0, .int 0, .int 0, .int 0])), (r0, .inl (d.2.1, 7, .inl tabF))]) rfl dX3_init_14 ?_
  refine g_aload_n E 0 dX3_init_17 rfl rfl ?_
  refine g_new E (T := TX0) (N := 6) (ci := 0) inlX0 tyX0 tyX0_ok cl_X3_23 ib_RX0 it_RX0 rfl dfX0 dvX0 (ok_le rfl) (ok_le rfl) dX3_init_18 (fun r1 _ => ?_)
  refine g_dup E dX3_init_21 rfl ?_
  refine g_perm (ws' := [(r1, .inr (0, dfX0))] ++ ([(q0, .inr (3, [.ref r0, .null, .int 0, .int 0, .int 0, .int 0, .int 0, .int 0, .int 0, .int 0, .int 0, .int 0, .int 0, .int 0, .int 0, .int 0, .int 0])), (r0, .inl (d.2.1, 7, .inl tabF))])) List.perm_append_comm ?_
  refine g_callIv E gc_X0_init ml_X3_25 (t_X0_init d r1) rfl rfl rfl rfl (ok_le rfl) ⟨ok_le rfl, ok_le rfl, ok_le rfl, ok_le rfl⟩ rfl rfl dX3_init_22 ?_
  rintro u ⟨a, ea, rfl⟩
  subst ea
  refine g_putF E (ci := 3) inlX3 4 rfl rfl 1 (by decide) tyX3 tyX3_ok nmX3 hi fl_X3_26 rfl rfl rfl rfl rfl (ok_lt rfl) (ws' := DK d a DD0 ++ [(q0, .inr (3, [.ref r0, .ref (a 2), .int 0, .int 0, .int 0, .int 0, .int 0, .int 0, .int 0, .int 0, .int 0, .int 0, .int 0, .int 0, .int 0, .int 0, .int 0])), (r0, .inl (d.2.1, 7, .inl tabF))]) rfl dX3_init_25 ?_
  refine g_aload_n E 0 dX3_init_28 rfl rfl ?_
  refine g_sipush E 2048 dX3_init_29 (by decide) ?_
  refine g_put E (ci := 3) inlX3 4 rfl rfl 2 (by decide) tyX3 tyX3_ok nmX3 fl_X3_30 rfl rfl rfl rfl (ok_lt rfl) (ws' := DK d a DD0 ++ [(q0, .inr (3, [.ref r0, .ref (a 2), .int 2048, .int 0, .int 0, .int 0, .int 0, .int 0, .int 0, .int 0, .int 0, .int 0, .int 0, .int 0, .int 0, .int 0, .int 0])), (r0, .inl (d.2.1, 7, .inl tabF))]) rfl dX3_init_32 ?_
  refine g_aload_n E 0 dX3_init_35 rfl rfl ?_
  refine g_sipush E 2048 dX3_init_36 (by decide) ?_
  refine g_put E (ci := 3) inlX3 4 rfl rfl 3 (by decide) tyX3 tyX3_ok nmX3 fl_X3_34 rfl rfl rfl rfl (ok_lt rfl) (ws' := DK d a DD0 ++ [(q0, .inr (3, [.ref r0, .ref (a 2), .int 2048, .int 2048, .int 0, .int 0, .int 0, .int 0, .int 0, .int 0, .int 0, .int 0, .int 0, .int 0, .int 0, .int 0, .int 0])), (r0, .inl (d.2.1, 7, .inl tabF))]) rfl dX3_init_39 ?_
  refine g_aload_n E 0 dX3_init_42 rfl rfl ?_
  refine g_aload_n E 0 dX3_init_43 rfl rfl ?_
  refine g_get E (ci := 3) inlX3 4 rfl rfl 0 (by decide) fl_X3_18 rfl (.ref r0) rfl dX3_init_44 ?_
  refine g_iconst E 1 dX3_init_47 (by decide) ?_
  refine g_iald E 5 rfl rfl 1 rfl (by decide) (by decide) dX3_init_48 ?_
  refine g_top (b := 6) rfl ?_
  refine g_put E (ci := 3) inlX3 4 rfl rfl 4 (by decide) tyX3 tyX3_ok nmX3 fl_X3_37 rfl rfl rfl rfl (ok_lt rfl) (ws' := DK d a DD0 ++ [(q0, .inr (3, [.ref r0, .ref (a 2), .int 2048, .int 2048, .int 6, .int 0, .int 0, .int 0, .int 0, .int 0, .int 0, .int 0, .int 0, .int 0, .int 0, .int 0, .int 0])), (r0, .inl (d.2.1, 7, .inl tabF))]) rfl dX3_init_49 ?_
  exact RET 52 _ _ dX3_init_52 ⟨(fun k => match k with | 0 => q0 | 1 => r0 | 2 => a 2 | 3 => a 3 | 4 => a 4 | _ => a 5), rfl, rfl⟩
abbrev R_X4_init : Room := { frames := 3, cells := 17, slots := 212, locals := 52 }
set_option maxHeartbeats 2000000 in
set_option maxRecDepth 100000 in
theorem t_X4_init (d : gD) (q0 : Nat) : gMv d yX4_init cX4_init 1 R_X4_init [.ref q0] [(q0, .inr (4, dfX4))] (fun u => ∃ (x a b c e : Nat → Nat) (p q : Nat → Nat → Nat), x 0 = q0 ∧ u = XW d (x, a, b, c, e) p q S0 S0 (fun _ => 0) (fun _ => 0) (0, 0, fun _ => none) (fun _ => none)) := by
  refine g_met_v RX4 rfl (by decide +kernel) (Nat.le_of_ble_eq_true rfl) [(0, .ref q0)] rfl (fun X E hi0 RET => ?_)
  have hi := hi0 rfl
  refine g_aload_n E 0 dX4_init_0 rfl rfl ?_
  refine g_objInit E ml_X4_1 (ok_le rfl) (ok_le rfl) dX4_init_1 ?_
  refine g_aload_n E 0 dX4_init_4 rfl rfl ?_
  refine g_new E (T := TX3) (N := 17) (ci := 3) inlX3 tyX3 tyX3_ok cl_X4_7 ib_RX3 it_RX3 rfl dfX3 dvX3 (ok_le rfl) (ok_le rfl) dX4_init_5 (fun r0 _ => ?_)
  refine g_dup E dX4_init_8 rfl ?_
  refine g_perm (ws' := [(r0, .inr (3, dfX3))] ++ ([(q0, .inr (4, [.null, .null, .null, .null, .null]))])) List.perm_append_comm ?_
  refine g_callIv E gc_X3_init ml_X4_9 (t_X3_init d r0) rfl rfl rfl rfl (ok_le rfl) ⟨ok_le rfl, ok_le rfl, ok_le rfl, ok_le rfl⟩ rfl rfl dX4_init_9 ?_
  rintro u ⟨a, ea, rfl⟩
  subst ea
  refine g_putF E (ci := 4) inlX4 6 rfl rfl 0 (by decide) tyX4 tyX4_ok nmX4 hi fl_X4_10 rfl rfl rfl rfl rfl (ok_lt rfl) (ws' := SK d a S0 ++ [(q0, .inr (4, [.ref (a 0), .null, .null, .null, .null]))]) rfl dX4_init_12 ?_
  refine g_aload_n E 0 dX4_init_15 rfl rfl ?_
  refine g_new E (T := TX3) (N := 17) (ci := 3) inlX3 tyX3 tyX3_ok cl_X4_7 ib_RX3 it_RX3 rfl dfX3 dvX3 (ok_le rfl) (ok_le rfl) dX4_init_16 (fun r1 _ => ?_)
  refine g_dup E dX4_init_19 rfl ?_
  refine g_perm (ws' := [(r1, .inr (3, dfX3))] ++ (SK d a S0 ++ [(q0, .inr (4, [.ref (a 0), .null, .null, .null, .null]))])) List.perm_append_comm ?_
  refine g_callIv E gc_X3_init ml_X4_9 (t_X3_init d r1) rfl rfl rfl rfl (ok_le rfl) ⟨ok_le rfl, ok_le rfl, ok_le rfl, ok_le rfl⟩ rfl rfl dX4_init_20 ?_
  rintro u ⟨b, eb, rfl⟩
  subst eb
  refine g_putF E (ci := 4) inlX4 12 rfl rfl 1 (by decide) tyX4 tyX4_ok nmX4 hi fl_X4_16 rfl rfl rfl rfl rfl (ok_lt rfl) (ws' := SK d b S0 ++ (SK d a S0 ++ [(q0, .inr (4, [.ref (a 0), .ref (b 0), .null, .null, .null]))])) rfl dX4_init_23 ?_
  refine g_aload_n E 0 dX4_init_26 rfl rfl ?_
  refine g_new E (T := TX2) (N := 7) (ci := 2) inlX2 tyX2 tyX2_ok cl_X4_19 ib_RX2 it_RX2 rfl dfX2 dvX2 (ok_le rfl) (ok_le rfl) dX4_init_27 (fun r2 _ => ?_)
  refine g_dup E dX4_init_30 rfl ?_
  refine g_perm (ws' := [(r2, .inr (2, dfX2))] ++ (SK d b S0 ++ (SK d a S0 ++ [(q0, .inr (4, [.ref (a 0), .ref (b 0), .null, .null, .null]))]))) List.perm_append_comm ?_
  refine g_callIv E gc_X2_init ml_X4_21 (t_X2_init d r2) rfl rfl rfl rfl (ok_le rfl) ⟨ok_le rfl, ok_le rfl, ok_le rfl, ok_le rfl⟩ rfl rfl dX4_init_31 ?_
  rintro u ⟨c, ec, rfl⟩
  subst ec
  refine g_putF E (ci := 4) inlX4 14 rfl rfl 2 (by decide) tyX4 tyX4_ok nmX4 hi fl_X4_22 rfl rfl rfl rfl rfl (ok_lt rfl) (ws' := PK d c (fun _ => 0) (fun _ => 0) ++ (SK d b S0 ++ (SK d a S0 ++ [(q0, .inr (4, [.ref (a 0), .ref (b 0), .ref (c 0), .null, .null]))]))) rfl dX4_init_34 ?_
  refine g_aload_n E 0 dX4_init_37 rfl rfl ?_
  refine g_new E (T := TX1) (N := 3) (ci := 1) inlX1 tyX1 tyX1_ok cl_X4_26 ib_RX1 it_RX1 rfl dfX1 dvX1 (ok_le rfl) (ok_le rfl) dX4_init_38 (fun r3 _ => ?_)
  refine g_dup E dX4_init_41 rfl ?_
  refine g_perm (ws' := [(r3, .inr (1, dfX1))] ++ (PK d c (fun _ => 0) (fun _ => 0) ++ (SK d b S0 ++ (SK d a S0 ++ [(q0, .inr (4, [.ref (a 0), .ref (b 0), .ref (c 0), .null, .null]))])))) List.perm_append_comm ?_
  refine g_callIv E gc_X1_init ml_X4_28 (t_X1_init d r3) rfl rfl rfl rfl (ok_le rfl) ⟨ok_le rfl, ok_le rfl, ok_le rfl, ok_le rfl⟩ rfl rfl dX4_init_42 ?_
  rintro u ⟨e, ee, rfl⟩
  subst ee
  refine g_putF E (ci := 4) inlX4 16 rfl rfl 3 (by decide) tyX4 tyX4_ok nmX4 hi fl_X4_29 rfl rfl rfl rfl rfl (ok_lt rfl) (ws' := HB d e 0 0 (fun _ => none) ++ (PK d c (fun _ => 0) (fun _ => 0) ++ (SK d b S0 ++ (SK d a S0 ++ [(q0, .inr (4, [.ref (a 0), .ref (b 0), .ref (c 0), .ref (e 0), .null]))])))) rfl dX4_init_45 ?_
  refine g_aload_n E 0 dX4_init_48 rfl rfl ?_
  refine g_iconst E 2 dX4_init_49 (by decide) ?_
  refine g_newq E cl_X4_7 rfl (N := 2) (by decide) (by decide) (ok_le rfl) (ok_le rfl) dX4_init_50 (fun r4 _ => ?_)
  refine g_eq (ws' := HB d e 0 0 (fun _ => none) ++ (PK d c (fun _ => 0) (fun _ => 0) ++ (SK d b S0 ++ (SK d a S0 ++ [(q0, .inr (4, [.ref (a 0), .ref (b 0), .ref (c 0), .ref (e 0), .null])), (r4, .inl (d.2.2.2.2, 2, .inr (.inr (.inr (.inr (fun _ => none))))))])))) rfl ?_
  refine g_putF E (ci := 4) inlX4 16 rfl rfl 4 (by decide) tyX4 tyX4_ok nmX4 hi fl_X4_33 rfl rfl rfl rfl rfl (ok_lt rfl) (ws' := HB d e 0 0 (fun _ => none) ++ (PK d c (fun _ => 0) (fun _ => 0) ++ (SK d b S0 ++ (SK d a S0 ++ [(q0, .inr (4, [.ref (a 0), .ref (b 0), .ref (c 0), .ref (e 0), .ref r4])), (r4, .inl (d.2.2.2.2, 2, .inr (.inr (.inr (.inr (fun _ => none))))))])))) rfl dX4_init_53 ?_
  refine g_perm (ws' := [(q0, .inr (4, [.ref (a 0), .ref (b 0), .ref (c 0), .ref (e 0), .ref r4])), (r4, .inl (d.2.2.2.2, 2, .inr (.inr (.inr (.inr (fun _ => none))))))] ++ (SK d a S0 ++ (SK d b S0 ++ (PK d c (fun _ => 0) (fun _ => 0) ++ (HB d e 0 0 (fun _ => none)))))) (lr5 _ _ _ _ _) ?_
  exact RET 56 _ _ dX4_init_56 ⟨(fun k => match k with | 0 => q0 | _ => r4), a, b, c, e, fun _ _ => 0, fun _ _ => 0, rfl, rfl⟩
end
section
abbrev R_X1_placeOf : Room := { frames := 1, cells := 0, slots := 0, locals := 22 }
theorem t_X1_placeOf (d : gD) (e : Nat → Nat) (o n w : Int32) (q : Nat → Option Nat) : gMi d yX1_placeOf cX1_placeOf 2 (some .int) R_X1_placeOf [.ref (e 0), .int w] (HB d e o n q) (fun r u => r = r_J9_floorMod_7cf53 (o + w) 6 ∧ u = HB d e o n q) := by
  refine g_met_i RX1 rfl (by decide +kernel) (Nat.le_of_ble_eq_true rfl) [(0, .ref (e 0)), (1, .int w)] rfl (fun X E RET => ?_)
  refine g_aload_n E 0 dX1_placeOf_0 rfl rfl ?_
  refine g_get E (ci := 1) inlX1 0 rfl rfl 1 (by decide) fl_X1_17 rfl (.int o) rfl dX1_placeOf_1 ?_
  refine g_iload_n E 1 dX1_placeOf_4 rfl rfl ?_
  refine g_iadd E dX1_placeOf_5 ?_
  refine g_bipush E 6 dX1_placeOf_6 (by decide) ?_
  refine g_callSp E gc_J9_floorMod_7cf53 ml_X1_21 (t_J9_floorMod_7cf53 d (o + w) 6 (by decide)) rfl rfl rfl (ok_le rfl) ⟨ok_le rfl, ok_le rfl, ok_le rfl, ok_le rfl⟩ rfl rfl dX1_placeOf_8 ?_
  exact RET 11 _ _ _ dX1_placeOf_11 rfl ⟨rfl, rfl⟩
/-! the sticks that there are -/
def pup (p : Nat → Nat → Nat) (i : Nat) (b : Nat → Nat) : Nat → Nat → Nat := fun j => if j = i then b else p j
def sup (s : Nat → Option SS) (i : Nat) (x : Option SS) : Nat → Option SS := fun j => if j = i then x else s j
theorem sup_at (s : Nat → Option SS) (i : Nat) (x : Option SS) : sup s i x i = x := if_pos rfl
theorem sup_ne (s : Nat → Option SS) {i j : Nat} (x : Option SS) (h : j ≠ i) : sup s i x j = s j := if_neg h
theorem pup_at (p : Nat → Nat → Nat) (i : Nat) (b : Nat → Nat) : pup p i b i = b := if_pos rfl
theorem pup_ne (p : Nat → Nat → Nat) {i j : Nat} (b : Nat → Nat) (h : j ≠ i) : pup p i b j = p j := if_neg h
theorem PL_cong (d : gD) {p p' : Nat → Nat → Nat} {s s' : Nat → Option SS} : ∀ (n : Nat), (∀ j, j < n → s j = s' j ∧ p j = p' j) → PL d p s n = PL d p' s' n := by
  intro n
  induction n with
  | zero => intro _; rfl
  | succ n ih =>
    intro h
    rw [PL, PL, ih (fun j hj => h j (by omega)), (h n (by omega)).1, (h n (by omega)).2]
theorem PL_take (d : gD) (p : Nat → Nat → Nat) (s : Nat → Option SS) {i : Nat} {T : SS} (hT : s i = some T) : ∀ (n : Nat), i < n → (PL d p s n).Perm (SK d (p i) T ++ PL d p (sup s i none) n) := by
  intro n
  induction n with
  | zero => intro h; omega
  | succ n ih =>
    intro h
    rw [PL, PL]
    by_cases c : i = n
    · subst c
      rw [hT, sup_at, List.append_nil, PL_cong d (s' := sup s i none) (p' := p) i (fun j hj => ⟨(sup_ne s none (by omega)).symm, rfl⟩)]
      exact List.perm_append_comm
    · rw [sup_ne s none (show n ≠ i by omega), ← List.append_assoc]
      exact (ih (by omega)).append_right _
theorem PL_put (d : gD) (p : Nat → Nat → Nat) (s : Nat → Option SS) {i : Nat} (hn : s i = none) (b : Nat → Nat) (T : SS) : ∀ (n : Nat), i < n → (SK d b T ++ PL d p s n).Perm (PL d (pup p i b) (sup s i (some T)) n) := by
  intro n
  induction n with
  | zero => intro h; omega
  | succ n ih =>
    intro h
    rw [PL, PL]
    by_cases c : i = n
    · subst c
      rw [hn, sup_at, List.append_nil, pup_at, PL_cong d (s' := sup s i (some T)) (p' := pup p i b) i (fun j hj => ⟨(sup_ne s _ (by omega)).symm, (pup_ne p b (by omega)).symm⟩)]
      exact List.perm_append_comm
    · rw [sup_ne s _ (show n ≠ i by omega), pup_ne p b (show n ≠ i by omega), ← List.append_assoc]
      exact (ih (by omega)).append_right _
theorem pm_a {α : Type} {H P K P' A : List α} (h : P.Perm (K ++ P')) : (H ++ (P ++ A)).Perm ((K ++ A) ++ (H ++ P')) := by
  have h1 : (H ++ (P ++ A)).Perm (H ++ ((K ++ P') ++ A)) := (h.append_right A).append_left H
  have h2 : (H ++ ((K ++ P') ++ A)).Perm (H ++ ((K ++ A) ++ P')) := by
    refine List.Perm.append_left H ?_
    rw [List.append_assoc, List.append_assoc]
    exact List.Perm.append_left K List.perm_append_comm
  exact (h1.trans h2).trans (List.perm_append_comm_assoc H (K ++ A) P')
theorem pm_b {α : Type} {H P K A : List α} : (K ++ (H ++ (P ++ A))).Perm ((K ++ A) ++ (H ++ P)) := by
  have h := pm_a (H := H) (P := K ++ P) (K := K) (P' := P) (A := A) (List.Perm.refl _)
  refine List.Perm.trans ?_ h
  rw [List.append_assoc]
  exact List.perm_append_comm_assoc K H (P ++ A)
theorem pm_c {α : Type} {H P K A Q : List α} (h : (K ++ P).Perm Q) : ((K ++ A) ++ (H ++ P)).Perm (H ++ (Q ++ A)) := (pm_a h.symm).symm
theorem pm_d {α : Type} {H P K P' A : List α} (h : P.Perm (K ++ P')) : (H ++ (P ++ A)).Perm ((A ++ K) ++ (H ++ P')) := (pm_a h).trans (List.perm_append_comm.append_right _)
theorem fm_nI (k : Nat) (h : k < 12) : r_J9_floorMod_7cf53 (nI k) 6 = nI (k % 6) := by
  have : ∀ k, k < 12 → r_J9_floorMod_7cf53 (nI k) 6 = nI (k % 6) := by decide +kernel
  exact this k h
def keepY (o n : Nat) (hs : Nat → Option SS) (S : SS) : HS := if n < 6 then (o, n + 1, sup hs ((o + n) % 6) (some S)) else ((o + 1) % 6, 6, sup hs ((o + n) % 6) (some S))
theorem g_k6 {n : Nat} (h : n ≤ 6) : nI n < 6 ↔ n < 6 := nI_ltI (a := n) (b := 6) (by omega) (by omega)
abbrev R_X1_keep : Room := { frames := 3, cells := 6, slots := 57, locals := 63 }
set_option maxHeartbeats 2000000 in
set_option maxRecDepth 100000 in
theorem s_X1_keep_54 (d : gD) (e a b : Nat → Nat) (i : Int32) (o n : Nat) (q : Nat → Option Nat) (ho : o < 6) (hn : n ≤ 6) (P A : va_W) {X : gX} (E : gE d X RX1 cX1_keep 4 R_X1_keep) (RET : ∀ (pc : Nat) (lv : List (Nat × Value)) (u : va_W), decode cX1_keep pc = .ok (.return_, 1) → u = HB d e (if n < 6 then nI o else nI ((o + 1) % 6)) (if n < 6 then nI (n + 1) else nI 6) q ++ (P ++ A) → G d X u R_X1_keep.cells R_X1_keep.slots pc lv []) : G d X (HB d e (nI o) (nI n) q ++ (P ++ A)) 6 57 54 [(0, .ref (e 0)), (1, .ref (a 0)), (2, .int i), (3, .ref (b 0))] [] := by
  refine g_aload_n E 0 dX1_keep_54 rfl rfl ?_
  refine g_get E (ci := 1) inlX1 0 rfl rfl 2 (by decide) fl_X1_27 rfl (.int (nI n)) rfl dX1_keep_55 ?_
  refine g_bipush E 6 dX1_keep_58 (by decide) ?_
  refine g_icmpge E 76 dX1_keep_60 (by decide) (fun c => ?_) (fun c => ?_)
  · have h6 : ¬ n < 6 := mt (g_k6 hn).mpr c
    refine g_aload_n E 0 dX1_keep_76 rfl rfl ?_
    refine g_aload_n E 0 dX1_keep_77 rfl rfl ?_
    refine g_iconst E 1 dX1_keep_78 (by decide) ?_
    refine g_callViD E gc_X1_placeOf ml_X1_30 (t_X1_placeOf d e (nI o) (nI n) 1 q) rfl rfl (ci := 1) 0 rfl rfl rfl rfl (ok_le rfl) ⟨ok_le rfl, ok_le rfl, ok_le rfl, ok_le rfl⟩ rfl rfl dX1_keep_79 ?_
    refine g_top (b := nI ((o + 1) % 6)) (by rw [show nI o + 1 = nI (o + 1) from nI_1 _]; exact fm_nI (o + 1) (by omega)) ?_
    refine g_put E (ci := 1) inlX1 0 rfl rfl 1 (by decide) tyX1 tyX1_ok nmX1 fl_X1_17 rfl rfl rfl rfl (ok_lt rfl) (ws' := HB d e (nI ((o + 1) % 6)) (nI n) q ++ (P ++ A)) rfl dX1_keep_82 ?_
    exact RET 85 _ _ dX1_keep_85 (by rw [if_neg h6, if_neg h6, show n = 6 by omega])
  · have h6 : n < 6 := (g_k6 hn).mp c
    refine g_aload_n E 0 dX1_keep_63 rfl rfl ?_
    refine g_dup E dX1_keep_64 rfl ?_
    refine g_get E (ci := 1) inlX1 0 rfl rfl 2 (by decide) fl_X1_27 rfl (.int (nI n)) rfl dX1_keep_65 ?_
    refine g_iconst E 1 dX1_keep_68 (by decide) ?_
    refine g_iadd E dX1_keep_69 ?_
    refine g_top (b := nI (n + 1)) (nI_1 _) ?_
    refine g_put E (ci := 1) inlX1 0 rfl rfl 2 (by decide) tyX1 tyX1_ok nmX1 fl_X1_27 rfl rfl rfl rfl (ok_lt rfl) (ws' := HB d e (nI o) (nI (n + 1)) q ++ (P ++ A)) rfl dX1_keep_70 ?_
    refine g_goto E 85 dX1_keep_73 (by decide) ?_
    exact RET 85 _ _ dX1_keep_85 (by rw [if_pos h6, if_pos h6])
theorem qf_up (p : Nat → Nat → Nat) (s : Nat → Option SS) (i : Nat) (b : Nat → Nat) (T : SS) : va_up (qf p s) i (some (b 0)) = qf (pup p i b) (sup s i (some T)) := by
  funext j
  unfold va_up qf sup pup
  by_cases h : j = i
  · rw [if_pos h, if_pos h, if_pos h]
    rfl
  · rw [if_neg h, if_neg h, if_neg h]
theorem qf_same (p : Nat → Nat → Nat) (s : Nat → Option SS) {i : Nat} {T : SS} (hT : s i = some T) (T' : SS) : qf p s = qf (pup p i (p i)) (sup s i (some T')) := by
  funext j
  unfold qf sup pup
  by_cases h : j = i
  · subst h
    rw [if_pos rfl, if_pos rfl, hT]
    rfl
  · rw [if_neg h, if_neg h]
theorem sup_sup (s : Nat → Option SS) (i : Nat) (x y : Option SS) : sup (sup s i x) i y = sup s i y := by
  funext j
  unfold sup
  by_cases h : j = i
  · rw [if_pos h, if_pos h]
  · rw [if_neg h, if_neg h, if_neg h]
set_option maxHeartbeats 2000000 in
set_option maxRecDepth 100000 in
theorem s_X1_keep (d : gD) (e a : Nat → Nat) (p : Nat → Nat → Nat) (o n : Nat) (hs : Nat → Option SS) (S : SS) (ho : o < 6) (hn : n ≤ 6) {X : gX} (E : gE d X RX1 cX1_keep 4 R_X1_keep) (RET : ∀ (pc : Nat) (lv : List (Nat × Value)) (u : va_W), decode cX1_keep pc = .ok (.return_, 1) → (∃ p', u = HB d e (nI (keepY o n hs S).1) (nI (keepY o n hs S).2.1) (qf p' (keepY o n hs S).2.2) ++ (PL d p' (keepY o n hs S).2.2 6 ++ SK d a S)) → G d X u R_X1_keep.cells R_X1_keep.slots pc lv []) : G d X (HB d e (nI o) (nI n) (qf p hs) ++ (PL d p hs 6 ++ SK d a S)) 0 0 0 [(0, .ref (e 0)), (1, .ref (a 0))] [] := by
  have k1 : (if n < 6 then nI o else nI ((o + 1) % 6)) = nI (keepY o n hs S).1 := by
    unfold keepY
    split <;> rfl
  have k2 : (if n < 6 then nI (n + 1) else nI 6) = nI (keepY o n hs S).2.1 := by
    unfold keepY
    split <;> rfl
  have k3 : sup hs ((o + n) % 6) (some S) = (keepY o n hs S).2.2 := by
    unfold keepY
    split <;> rfl
  refine g_aload_n E 0 dX1_keep_0 rfl rfl ?_
  refine g_aload_n E 0 dX1_keep_1 rfl rfl ?_
  refine g_get E (ci := 1) inlX1 0 rfl rfl 2 (by decide) fl_X1_27 rfl (.int (nI n)) rfl dX1_keep_2 ?_
  refine g_callViD E gc_X1_placeOf ml_X1_30 (t_X1_placeOf d e (nI o) (nI n) (nI n) (qf p hs)) rfl rfl (ci := 1) 0 rfl rfl rfl rfl (ok_le rfl) ⟨ok_le rfl, ok_le rfl, ok_le rfl, ok_le rfl⟩ rfl rfl dX1_keep_5 ?_
  refine g_top (b := nI ((o + n) % 6)) (by rw [nI_add]; exact fm_nI (o + n) (by omega)) ?_
  obtain ⟨i, hi⟩ : ∃ i, (o + n) % 6 = i := ⟨_, rfl⟩
  have hi6 : i < 6 := by omega
  rw [hi] at k3 ⊢
  refine g_istore_n E (lv' := [(2, .int (nI i)), (0, .ref (e 0)), (1, .ref (a 0))]) dX1_keep_8 rfl (by decide) rfl ?_
  refine g_iload_n E 0 dX1_keep_9 rfl rfl ?_
  refine g_iflt E 22 dX1_keep_10 (by decide) (fun c => absurd c (nI_pos (by omega))) (fun _ => ?_)
  refine g_iload_n E 0 dX1_keep_13 rfl rfl ?_
  refine g_aload_n E 1 dX1_keep_14 rfl rfl ?_
  refine g_get E (ci := 1) inlX1 0 rfl rfl 0 (by decide) fl_X1_11 rfl (.ref (e 1)) rfl dX1_keep_15 ?_
  refine g_alen E 1 3 rfl rfl 6 rfl dX1_keep_18 ?_
  refine g_icmplt E 23 dX1_keep_19 (by decide) (fun _ => ?_) (fun c => absurd ((g_k6 (by omega)).mpr hi6) c)
  refine g_aload_n E 1 dX1_keep_23 rfl rfl ?_
  refine g_get E (ci := 1) inlX1 0 rfl rfl 0 (by decide) fl_X1_11 rfl (.ref (e 1)) rfl dX1_keep_24 ?_
  refine g_iload_n E 0 dX1_keep_27 rfl rfl ?_
  refine g_aald E 1 rfl rfl i rfl hi6 (by decide) dX1_keep_28 ?_
  cases hT : hs i with
  | some T =>
    refine g_st (st' := [.ref (p i 0)]) (by unfold qf; rw [hT]; rfl) ?_
    refine g_astore_n E (lv' := [(3, .ref (p i 0)), (2, .int (nI i)), (0, .ref (e 0)), (1, .ref (a 0))]) dX1_keep_29 rfl (by decide) rfl ?_
    refine g_aload_n E 0 dX1_keep_30 rfl rfl ?_
    refine g_ifnonnull E 49 dX1_keep_31 (by decide) ?_
    refine g_aload_n E 0 dX1_keep_49 rfl rfl ?_
    refine g_aload_n E 3 dX1_keep_50 rfl rfl ?_
    refine g_perm (ws' := (SK d (p i) T ++ SK d a S) ++ (HB d e (nI o) (nI n) (qf p hs) ++ PL d p (sup hs i none) 6)) (pm_a (PL_take d p hs hT 6 hi6)) ?_
    refine g_callVvD E gc_X3_becomeLike ml_X1_35 (t2_X3_becomeLike d (p i) a T S) rfl rfl (ci := 3) 4 rfl rfl rfl rfl (ok_le rfl) ⟨ok_le rfl, ok_le rfl, ok_le rfl, ok_le rfl⟩ rfl rfl dX1_keep_51 ?_
    refine g_perm (ws' := HB d e (nI o) (nI n) (qf p hs) ++ (PL d (pup p i (p i)) (sup hs i (some S)) 6 ++ SK d a S)) (pm_c (by rw [← sup_sup hs i none (some S)]; exact PL_put d p (sup hs i none) (sup_at _ _ _) (p i) S 6 hi6)) ?_
    refine g_widen (k1 := 6) (n1 := 57) (ok_le rfl) (ok_le rfl) ?_
    refine g_lvs (lv' := [(0, .ref (e 0)), (1, .ref (a 0)), (2, .int (nI i)), (3, .ref (p i 0))]) [2, 3, 1, 0] rfl ?_
    refine s_X1_keep_54 d e a (p i) (nI i) o n (qf p hs) ho hn _ _ E (fun pc lv u h1 h2 => RET pc lv u h1 ⟨pup p i (p i), ?_⟩)
    rw [h2, k1, k2, qf_same p hs hT S, k3]
  | none =>
    refine g_st (st' := [.null]) (by unfold qf; rw [hT]; rfl) ?_
    refine g_astore_nN E (lv' := [(3, .null), (2, .int (nI i)), (0, .ref (e 0)), (1, .ref (a 0))]) dX1_keep_29 rfl (by decide) rfl ?_
    refine g_aload_nN E 0 dX1_keep_30 rfl rfl ?_
    refine g_ifnonnullN E dX1_keep_31 ?_
    refine g_new E (T := TX3) (N := 17) (ci := 3) inlX3 tyX3 tyX3_ok cl_X1_9 ib_RX3 it_RX3 rfl dfX3 dvX3 (ok_le rfl) (ok_le rfl) dX1_keep_34 (fun q _ => ?_)
    refine g_dup E dX1_keep_37 rfl ?_
    refine g_perm (ws' := [(q, .inr (3, dfX3))] ++ (HB d e (nI o) (nI n) (qf p hs) ++ (PL d p hs 6 ++ SK d a S))) List.perm_append_comm ?_
    refine g_callIv E gc_X3_init ml_X1_34 (t_X3_init d q) rfl rfl rfl rfl (ok_le rfl) ⟨ok_le rfl, ok_le rfl, ok_le rfl, ok_le rfl⟩ rfl rfl dX1_keep_38 ?_
    rintro u ⟨b, eb, rfl⟩
    subst eb
    refine g_astore_n E (lv' := [(3, .ref (b 0)), (2, .int (nI i)), (0, .ref (e 0)), (1, .ref (a 0))]) dX1_keep_41 rfl (by decide) rfl ?_
    refine g_aload_n E 2 dX1_keep_42 rfl rfl ?_
    refine g_get E (ci := 1) inlX1 6 rfl rfl 0 (by decide) fl_X1_11 rfl (.ref (e 1)) rfl dX1_keep_43 ?_
    refine g_iload_n E 1 dX1_keep_46 rfl rfl ?_
    refine g_aload_n E 0 dX1_keep_47 rfl rfl ?_
    refine g_aast E 7 4 rfl rfl rfl i rfl hi6 (by decide) (ws' := SK d b S0 ++ (HB d e (nI o) (nI n) (va_up (qf p hs) i (some (b 0))) ++ (PL d p hs 6 ++ SK d a S))) rfl dX1_keep_48 ?_
    refine g_aload_n E 0 dX1_keep_49 rfl rfl ?_
    refine g_aload_n E 3 dX1_keep_50 rfl rfl ?_
    refine g_perm (ws' := (SK d b S0 ++ SK d a S) ++ (HB d e (nI o) (nI n) (va_up (qf p hs) i (some (b 0))) ++ PL d p hs 6)) pm_b ?_
    refine g_callVvD E gc_X3_becomeLike ml_X1_35 (t2_X3_becomeLike d b a S0 S) rfl rfl (ci := 3) 4 rfl rfl rfl rfl (ok_le rfl) ⟨ok_le rfl, ok_le rfl, ok_le rfl, ok_le rfl⟩ rfl rfl dX1_keep_51 ?_
    refine g_perm (ws' := HB d e (nI o) (nI n) (va_up (qf p hs) i (some (b 0))) ++ (PL d (pup p i b) (sup hs i (some S)) 6 ++ SK d a S)) (pm_c (PL_put d p hs hT b S 6 hi6)) ?_
    refine g_lvs (lv' := [(0, .ref (e 0)), (1, .ref (a 0)), (2, .int (nI i)), (3, .ref (b 0))]) [2, 3, 1, 0] rfl ?_
    refine s_X1_keep_54 d e a b (nI i) o n _ ho hn _ _ E (fun pc lv u h1 h2 => RET pc lv u h1 ⟨pup p i b, ?_⟩)
    rw [h2, k1, k2, qf_up p hs i b S, k3]
theorem t_X1_keep (d : gD) (e a : Nat → Nat) (p : Nat → Nat → Nat) (o n : Nat) (hs : Nat → Option SS) (S : SS) (ho : o < 6) (hn : n ≤ 6) : gMv d yX1_keep cX1_keep 4 R_X1_keep [.ref (e 0), .ref (a 0)] (HP d e p (o, n, hs) ++ SK d a S) (fun u => ∃ p', u = HP d e p' (keepY o n hs S) ++ SK d a S) := by
  refine g_met_v RX1 rfl (by decide +kernel) (Nat.le_of_ble_eq_true rfl) [(0, .ref (e 0)), (1, .ref (a 0))] rfl (fun X E _ RET => ?_)
  refine g_eq (ws' := HB d e (nI o) (nI n) (qf p hs) ++ (PL d p hs 6 ++ SK d a S)) (List.append_assoc _ _ _) ?_
  exact s_X1_keep d e a p o n hs S ho hn E (fun pc lv u h1 h2 => by
    obtain ⟨p', rfl⟩ := h2
    exact RET pc lv _ h1 ⟨p', (List.append_assoc _ _ _).symm⟩)
/-- what takeBack answers and leaves -/
def tbT (o n : Nat) (hs : Nat → Option SS) : Option SS := if n = 0 then none else hs ((o + (n - 1)) % 6)
def tbR (n : Nat) (z : Option SS) : Int32 := match z with | none => -5 | some _ => nI (n - 1)
def tbN (n : Nat) (z : Option SS) : Nat := match z with | none => n | some _ => n - 1
def tbS (S : SS) (z : Option SS) : SS := match z with | none => S | some T => T
abbrev R_X1_takeBack : Room := { frames := 3, cells := 0, slots := 0, locals := 63 }
set_option maxHeartbeats 2000000 in
set_option maxRecDepth 100000 in
theorem t_X1_takeBack (d : gD) (e a : Nat → Nat) (p : Nat → Nat → Nat) (o n : Nat) (hs : Nat → Option SS) (S : SS) (ho : o < 6) (hn : n ≤ 6) : gMi d yX1_takeBack cX1_takeBack 4 (some .int) R_X1_takeBack [.ref (e 0), .ref (a 0)] (HP d e p (o, n, hs) ++ SK d a S) (fun r u => r = tbR n (tbT o n hs) ∧ u = HP d e p (o, tbN n (tbT o n hs), hs) ++ SK d a (tbS S (tbT o n hs))) := by
  refine g_met_i RX1 rfl (by decide +kernel) (Nat.le_of_ble_eq_true rfl) [(0, .ref (e 0)), (1, .ref (a 0))] rfl (fun X E RET => ?_)
  refine g_eq (ws' := HB d e (nI o) (nI n) (qf p hs) ++ (PL d p hs 6 ++ SK d a S)) (List.append_assoc _ _ _) ?_
  refine g_aload_n E 0 dX1_takeBack_0 rfl rfl ?_
  refine g_aload_n E 0 dX1_takeBack_1 rfl rfl ?_
  refine g_get E (ci := 1) inlX1 0 rfl rfl 2 (by decide) fl_X1_27 rfl (.int (nI n)) rfl dX1_takeBack_2 ?_
  refine g_iconst E 1 dX1_takeBack_5 (by decide) ?_
  refine g_isub E dX1_takeBack_6 ?_
  refine g_callViD E gc_X1_placeOf ml_X1_30 (t_X1_placeOf d e (nI o) (nI n) (nI n - 1) (qf p hs)) rfl rfl (ci := 1) 0 rfl rfl rfl rfl (ok_le rfl) ⟨ok_le rfl, ok_le rfl, ok_le rfl, ok_le rfl⟩ rfl rfl dX1_takeBack_7 ?_
  refine g_nm (fun v hv => ?_)
  refine g_istore_n E (lv' := [(2, .int v), (0, .ref (e 0)), (1, .ref (a 0))]) dX1_takeBack_10 rfl (by decide) rfl ?_
  refine g_aload_n E 1 dX1_takeBack_11 rfl rfl ?_
  refine g_get E (ci := 1) inlX1 0 rfl rfl 2 (by decide) fl_X1_27 rfl (.int (nI n)) rfl dX1_takeBack_12 ?_
  have e0 : (nI n = 0) ↔ n = 0 := nI_eq (a := n) (b := 0) (by omega) (by omega)
  refine g_ifeq E 31 dX1_takeBack_15 (by decide) (fun c => ?_) (fun c => ?_)
  · have h0 := e0.mp c
    have ht : tbT o n hs = none := if_pos h0
    refine g_bipush E (-5) dX1_takeBack_31 (by decide) ?_
    refine RET 33 _ _ _ dX1_takeBack_33 rfl ?_
    rw [ht]
    exact ⟨rfl, (List.append_assoc _ _ _).symm⟩
  have h0 : ¬ n = 0 := mt e0.mpr c
  obtain ⟨i, hi⟩ : ∃ i, (o + (n - 1)) % 6 = i := ⟨_, rfl⟩
  have hi6 : i < 6 := by omega
  have hvi : v = nI i := by
    rw [← hv, nI_m1 (by omega), nI_add, fm_nI _ (by omega), hi]
  have ht : tbT o n hs = hs i := by
    unfold tbT
    rw [if_neg h0, hi]
  rw [ht] at RET
  subst hvi
  refine g_iload_n E 0 dX1_takeBack_18 rfl rfl ?_
  refine g_iflt E 31 dX1_takeBack_19 (by decide) (fun c => absurd c (nI_pos (by omega))) (fun _ => ?_)
  refine g_iload_n E 0 dX1_takeBack_22 rfl rfl ?_
  refine g_aload_n E 1 dX1_takeBack_23 rfl rfl ?_
  refine g_get E (ci := 1) inlX1 0 rfl rfl 0 (by decide) fl_X1_11 rfl (.ref (e 1)) rfl dX1_takeBack_24 ?_
  refine g_alen E 1 3 rfl rfl 6 rfl dX1_takeBack_27 ?_
  refine g_icmplt E 34 dX1_takeBack_28 (by decide) (fun _ => ?_) (fun c => absurd ((g_k6 (by omega)).mpr hi6) c)
  refine g_aload_n E 1 dX1_takeBack_34 rfl rfl ?_
  refine g_get E (ci := 1) inlX1 0 rfl rfl 0 (by decide) fl_X1_11 rfl (.ref (e 1)) rfl dX1_takeBack_35 ?_
  refine g_iload_n E 0 dX1_takeBack_38 rfl rfl ?_
  refine g_aald E 1 rfl rfl i rfl hi6 (by decide) dX1_takeBack_39 ?_
  cases hT : hs i with
  | none =>
    rw [hT] at RET
    refine g_st (st' := [.null]) (by unfold qf; rw [hT]; rfl) ?_
    refine g_astore_nN E (lv' := [(3, .null), (2, .int (nI i)), (0, .ref (e 0)), (1, .ref (a 0))]) dX1_takeBack_40 rfl (by decide) rfl ?_
    refine g_aload_nN E 0 dX1_takeBack_41 rfl rfl ?_
    refine g_ifnonnullN E dX1_takeBack_42 ?_
    refine g_bipush E (-5) dX1_takeBack_45 (by decide) ?_
    exact RET 47 _ _ _ dX1_takeBack_47 rfl ⟨rfl, (List.append_assoc _ _ _).symm⟩
  | some T =>
    rw [hT] at RET
    refine g_st (st' := [.ref (p i 0)]) (by unfold qf; rw [hT]; rfl) ?_
    refine g_astore_n E (lv' := [(3, .ref (p i 0)), (2, .int (nI i)), (0, .ref (e 0)), (1, .ref (a 0))]) dX1_takeBack_40 rfl (by decide) rfl ?_
    refine g_aload_n E 0 dX1_takeBack_41 rfl rfl ?_
    refine g_ifnonnull E 48 dX1_takeBack_42 (by decide) ?_
    refine g_aload_n E 3 dX1_takeBack_48 rfl rfl ?_
    refine g_aload_n E 0 dX1_takeBack_49 rfl rfl ?_
    refine g_perm (ws' := (SK d a S ++ SK d (p i) T) ++ (HB d e (nI o) (nI n) (qf p hs) ++ PL d p (sup hs i none) 6)) (pm_d (PL_take d p hs hT 6 hi6)) ?_
    refine g_callVvD E gc_X3_becomeLike ml_X1_35 (t2_X3_becomeLike d a (p i) S T) rfl rfl (ci := 3) 4 rfl rfl rfl rfl (ok_le rfl) ⟨ok_le rfl, ok_le rfl, ok_le rfl, ok_le rfl⟩ rfl rfl dX1_takeBack_50 ?_
    refine g_perm (ws' := HB d e (nI o) (nI n) (qf p hs) ++ (PL d p hs 6 ++ SK d a T)) (pm_d (PL_take d p hs hT 6 hi6)).symm ?_
    refine g_aload_n E 2 dX1_takeBack_53 rfl rfl ?_
    refine g_dup E dX1_takeBack_54 rfl ?_
    refine g_get E (ci := 1) inlX1 0 rfl rfl 2 (by decide) fl_X1_27 rfl (.int (nI n)) rfl dX1_takeBack_55 ?_
    refine g_iconst E 1 dX1_takeBack_58 (by decide) ?_
    refine g_isub E dX1_takeBack_59 ?_
    refine g_top (b := nI (n - 1)) (nI_m1 (by omega)) ?_
    refine g_put E (ci := 1) inlX1 0 rfl rfl 2 (by decide) tyX1 tyX1_ok nmX1 fl_X1_27 rfl rfl rfl rfl (ok_lt rfl) (ws' := HB d e (nI o) (nI (n - 1)) (qf p hs) ++ (PL d p hs 6 ++ SK d a T)) rfl dX1_takeBack_60 ?_
    refine g_aload_n E 2 dX1_takeBack_63 rfl rfl ?_
    refine g_get E (ci := 1) inlX1 0 rfl rfl 2 (by decide) fl_X1_27 rfl (.int (nI (n - 1))) rfl dX1_takeBack_64 ?_
    exact RET 67 _ _ _ dX1_takeBack_67 rfl ⟨rfl, (List.append_assoc _ _ _).symm⟩
end
section
def c_X1_keep_y (y : HS) (S : SS) : HS := keepY y.1 y.2.1 y.2.2 S
theorem t2_X1_keep (d : gD) (e a : Nat → Nat) (p : Nat → Nat → Nat) (y : HS) (S : SS) (ho : y.1 < 6) (hn : y.2.1 ≤ 6) : gMv d yX1_keep cX1_keep 4 R_X1_keep [.ref (e 0), .ref (a 0)] (HP d e p y ++ SK d a S) (fun u => ∃ p', u = HP d e p' (c_X1_keep_y y S) ++ SK d a S) := t_X1_keep d e a p y.1 y.2.1 y.2.2 S ho hn
def r_X1_takeBack (y : HS) (S : SS) : Int32 := tbR y.2.1 (tbT y.1 y.2.1 y.2.2)
def c_X1_takeBack_y (y : HS) (S : SS) : HS := (y.1, tbN y.2.1 (tbT y.1 y.2.1 y.2.2), y.2.2)
def c_X1_takeBack_S (y : HS) (S : SS) : SS := tbS S (tbT y.1 y.2.1 y.2.2)
theorem t2_X1_takeBack (d : gD) (e a : Nat → Nat) (p : Nat → Nat → Nat) (y : HS) (S : SS) (ho : y.1 < 6) (hn : y.2.1 ≤ 6) : gMi d yX1_takeBack cX1_takeBack 4 (some .int) R_X1_takeBack [.ref (e 0), .ref (a 0)] (HP d e p y ++ SK d a S) (fun r u => r = r_X1_takeBack y S ∧ u = HP d e p (c_X1_takeBack_y y S) ++ SK d a (c_X1_takeBack_S y S)) := t_X1_takeBack d e a p y.1 y.2.1 y.2.2 S ho hn
section PX
variable {α : Type} {A B C D E F R K O : List α}
theorem px1 : (A ++ (B ++ R)).Perm (B ++ (A ++ R)) := List.perm_append_comm_assoc A B R
theorem px2 : (A ++ (B ++ (C ++ R))).Perm (C ++ (A ++ (B ++ R))) := ((List.perm_append_comm_assoc B C R).append_left A).trans px1
theorem px3 : (A ++ (B ++ (C ++ (D ++ R)))).Perm (D ++ (A ++ (B ++ (C ++ R)))) := ((px2 (A := B) (B := C) (C := D) (R := R)).append_left A).trans px1
theorem px4 : (A ++ (B ++ (C ++ (D ++ (E ++ R))))).Perm (E ++ (A ++ (B ++ (C ++ (D ++ R))))) := ((px3 (A := B) (B := C) (C := D) (D := E) (R := R)).append_left A).trans px1
theorem px21 : (A ++ (B ++ (C ++ R))).Perm ((C ++ B) ++ (A ++ R)) := by
  rw [List.append_assoc]
  exact px2.trans (px1.append_left C)
theorem px41 : (A ++ (B ++ (C ++ (D ++ (E ++ F))))).Perm ((E ++ B) ++ (A ++ (C ++ (D ++ F)))) := by
  rw [List.append_assoc]
  exact px4.trans (px1.append_left E)
theorem pxD : (A ++ ((K ++ O) ++ R)).Perm (K ++ (O ++ (A ++ R))) := by
  rw [List.append_assoc]
  exact px1.trans ((px1 (A := A) (B := O) (R := R)).append_left K)
end PX
theorem note_0 (x y : Int32) (D : DD) (h : ¬ D.1 0 < 0) : ¬ (c_X0_note x y D).1 0 < 0 := by
  have hg : ¬ (j_X0_note_59_g x y D) 0 < 0 := by
    unfold j_X0_note_59_g
    repeat' split
    all_goals first | exact h | skip
    next c =>
      have c' := ti_lt.mp c
      have h' := i_nn' h
      have e9 : (9 : Int32).toInt = 9 := rfl
      refine i_nn ?_
      show 0 ≤ (D.1 0 + 1).toInt
      rw [i_1 (by omega)]
      omega
  unfold c_X0_note
  split
  · exact h
  · split
    · exact hg
    · exact h
theorem tell_D (w : Int32) (S : SS) : (c_X3_tell w S).2.2 = c_X0_note (r_J6_compare_7cf53 ((j_X3_tell_41_g w S) 14) 0) (r_J6_compare_7cf53 ((j_X3_tell_41_g w S) 15) 0) S.2.2 := by
  unfold c_X3_tell c_X3_tell_at41
  with_reducible rfl
theorem take_D (x y : Int32) (S : SS) : (c_X3_take x y S).2.2 = (c_X3_tell (r_X3_tellingAt x y S) ((j_X3_take_80_g x y S), (j_X3_take_80_st x y S), (j_X3_take_80_D x y S))).2.2 := by
  unfold c_X3_take c_X3_take_at25 c_X3_take_at80 c_X3_take_at102
  with_reducible rfl
theorem KU_take {x y : Int32} {S : SS} (h : ¬ S.2.2.1 0 < 0) : ¬ (c_X3_take x y S).2.2.1 0 < 0 := by
  rw [take_D, tell_D]
  refine note_0 _ _ _ ?_
  rw [j80D]
  exact h
abbrev R_X4_set : Room := { frames := 4, cells := 6, slots := 57, locals := 86 }
def r_X4_set (setting : Int32) (value : Int32) (S : SS) (y : HS) : Int32 := if setting < 0 then (-2) else (if setting < 7 then (if value < (tabL setting.toNatClampNeg) then (-2) else (if (tabM setting.toNatClampNeg) < value then (-2) else (r_X3_changeSetting setting value S))) else (-2))
def c_X4_set_1 (setting : Int32) (value : Int32) (S : SS) (y : HS) : SS := if setting < 0 then S else (if setting < 7 then (if value < (tabL setting.toNatClampNeg) then S else (if (tabM setting.toNatClampNeg) < value then S else (c_X3_changeSetting setting value S))) else S)
def c_X4_set_y (setting : Int32) (value : Int32) (S : SS) (y : HS) : HS := if setting < 0 then y else (if setting < 7 then (if value < (tabL setting.toNatClampNeg) then y else (if (tabM setting.toNatClampNeg) < value then y else (c_X1_keep_y y S))) else y)
set_option maxHeartbeats 1000000 in
set_option maxRecDepth 100000 in
theorem s_X4_set_0 (d : gD) (x : Nat → Nat) (a : Nat → Nat) (b : Nat → Nat) (c : Nat → Nat) (e : Nat → Nat) (setting : Int32) (value : Int32) (p : Nat → Nat → Nat) (q : Nat → Nat → Nat) (S : SS) (T : SS) (h : Nat → Int32) (t : Nat → Int32) (y : HS) (ss : Nat → Option SS) (hy : y.1 < 6 ∧ y.2.1 ≤ 6)  {X : gX} (E : gE d X RX4 cX4_set 3 R_X4_set) (RET : ∀ (pc_ : Nat) (lv_ : List (Nat × Value)) (v_ : Int32) (u_ : va_W), decode cX4_set pc_ = .ok (.ireturn, 1) → narrow .int (.int v_) = .int v_ → v_ = r_X4_set setting value S y → (∃ p_ : Nat → Nat → Nat, u_ = XW d (x, a, b, c, e) p_ q (c_X4_set_1 setting value S y) T h t (c_X4_set_y setting value S y) ss) → G d X u_ R_X4_set.cells R_X4_set.slots pc_ lv_ [.int v_]) : G d X (XW d (x, a, b, c, e) p q S T h t y ss) 0 0 0 [(0, .ref (x 0)), (1, .int setting), (2, .int value)] [] := by
  refine g_iload_n E 1 dX4_set_0 rfl rfl ?_
  refine g_iflt E 28 dX4_set_1 (by decide) (fun c_1 => ?_) (fun c_1 => ?_)
  · skip
    refine g_bipush E (-2) dX4_set_28 (by decide) ?_
    refine g_widen (k1 := R_X4_set.cells) (n1 := R_X4_set.slots) (ok_le rfl) (ok_le rfl) ?_
    exact RET 30 _ (-2) _ dX4_set_30 rfl (by rw [r_X4_set, if_pos c_1]) ⟨p, (by rw [c_X4_set_1, if_pos c_1, c_X4_set_y, if_pos c_1])⟩
  · skip
    refine g_iload_n E 1 dX4_set_4 rfl rfl ?_
    refine g_bipush E 7 dX4_set_5 (by decide) ?_
    refine g_icmpge E 28 dX4_set_7 (by decide) (fun c_7 => ?_) (fun c_7 => ?_)
    · skip
      refine g_bipush E (-2) dX4_set_28 (by decide) ?_
      refine g_widen (k1 := R_X4_set.cells) (n1 := R_X4_set.slots) (ok_le rfl) (ok_le rfl) ?_
      exact RET 30 _ (-2) _ dX4_set_30 rfl (by rw [r_X4_set, if_neg c_1, if_neg c_7]) ⟨p, (by rw [c_X4_set_1, if_neg c_1, if_neg c_7, c_X4_set_y, if_neg c_1, if_neg c_7])⟩
    · skip
      refine g_iload_n E 2 dX4_set_10 rfl rfl ?_
      refine g_getsL E fl_X4_37 dX4_set_11 (fun t_11 ht_11 => ?_)
      refine g_iload_n E 1 dX4_set_14 rfl rfl ?_
      refine g_tald E ht_11 setting.toNatClampNeg (ix_eq c_1) (ix_lt (N := 7) c_1 c_7) dX4_set_15 ?_
      refine g_icmplt E 28 dX4_set_16 (by decide) (fun c_16 => ?_) (fun c_16 => ?_)
      · skip
        refine g_bipush E (-2) dX4_set_28 (by decide) ?_
        refine g_widen (k1 := R_X4_set.cells) (n1 := R_X4_set.slots) (ok_le rfl) (ok_le rfl) ?_
        exact RET 30 _ (-2) _ dX4_set_30 rfl (by rw [r_X4_set, if_neg c_1, if_pos c_7, if_pos c_16]) ⟨p, (by rw [c_X4_set_1, if_neg c_1, if_pos c_7, if_pos c_16, c_X4_set_y, if_neg c_1, if_pos c_7, if_pos c_16])⟩
      · skip
        refine g_iload_n E 2 dX4_set_19 rfl rfl ?_
        refine g_getsM E fl_X4_41 dX4_set_20 (fun t_20 ht_20 => ?_)
        refine g_iload_n E 1 dX4_set_23 rfl rfl ?_
        refine g_tald E ht_20 setting.toNatClampNeg (ix_eq c_1) (ix_lt (N := 7) c_1 c_7) dX4_set_24 ?_
        refine g_icmple E 31 dX4_set_25 (by decide) (fun c_25 => ?_) (fun c_25 => ?_)
        · skip
          refine g_aload_n E 0 dX4_set_31 rfl rfl ?_
          refine g_get E (ci := 4) inlX4 0 rfl rfl 3 (by decide) fl_X4_29 rfl (.ref (e 0)) rfl dX4_set_32 ?_
          refine g_aload_n E 0 dX4_set_35 rfl rfl ?_
          refine g_get E (ci := 4) inlX4 0 rfl rfl 0 (by decide) fl_X4_10 rfl (.ref (a 0)) rfl dX4_set_36 ?_
          refine g_eq (ws' := XO d x a b c e (qf q ss) ++ (SK d a S ++ (SK d b T ++ (PK d c h t ++ (HP d e p y ++ PL d q ss 2))))) rfl ?_
          refine g_perm (ws' := (HP d e p y ++ SK d a S) ++ (XO d x a b c e (qf q ss) ++ (SK d b T ++ (PK d c h t ++ PL d q ss 2)))) px41 ?_
          refine g_callVv E (wr := XO d x a b c e (qf q ss) ++ (SK d b T ++ (PK d c h t ++ PL d q ss 2))) gc_X1_keep ml_X4_44 (t2_X1_keep d e a p y S hy.1 hy.2) rfl rfl (ci := 1) 0 rfl rfl rfl rfl (ok_le rfl) ⟨ok_le rfl, ok_le rfl, ok_le rfl, ok_le rfl⟩ rfl rfl dX4_set_39 ?_
          rintro u_ ⟨p1, rfl⟩
          refine g_perm (ws' := XO d x a b c e (qf q ss) ++ (SK d a S ++ (SK d b T ++ (PK d c h t ++ (HP d e p1 (c_X1_keep_y y S) ++ PL d q ss 2))))) px41.symm ?_
          refine g_eq (ws' := XW d (x, a, b, c, e) p1 q S T h t (c_X1_keep_y y S) ss) rfl ?_
          obtain ⟨S1_, hS1_⟩ : ∃ z, c_X1_keep_y y S = z := ⟨_, rfl⟩
          rw [hS1_]
          refine g_aload_n E 0 dX4_set_42 rfl rfl ?_
          refine g_get E (ci := 4) inlX4 0 rfl rfl 0 (by decide) fl_X4_10 rfl (.ref (a 0)) rfl dX4_set_43 ?_
          refine g_iload_n E 1 dX4_set_46 rfl rfl ?_
          refine g_iload_n E 2 dX4_set_47 rfl rfl ?_
          refine g_eq (ws' := XO d x a b c e (qf q ss) ++ (SK d a S ++ (SK d b T ++ (PK d c h t ++ (HP d e p1 S1_ ++ PL d q ss 2))))) rfl ?_
          refine g_perm (ws' := (SK d a S) ++ (XO d x a b c e (qf q ss) ++ (SK d b T ++ (PK d c h t ++ (HP d e p1 S1_ ++ PL d q ss 2))))) px1 ?_
          refine g_callViD E (wr := XO d x a b c e (qf q ss) ++ (SK d b T ++ (PK d c h t ++ (HP d e p1 S1_ ++ PL d q ss 2)))) gc_X3_changeSetting ml_X4_48 (t_X3_changeSetting d a setting value S ) rfl rfl (ci := 3) 4 rfl rfl rfl rfl (ok_le rfl) ⟨ok_le rfl, ok_le rfl, ok_le rfl, ok_le rfl⟩ rfl rfl dX4_set_48 ?_
          refine g_perm (ws' := XO d x a b c e (qf q ss) ++ (SK d a (c_X3_changeSetting setting value S) ++ (SK d b T ++ (PK d c h t ++ (HP d e p1 S1_ ++ PL d q ss 2))))) px1.symm ?_
          refine g_eq (ws' := XW d (x, a, b, c, e) p1 q (c_X3_changeSetting setting value S) T h t S1_ ss) rfl ?_
          obtain ⟨S2_, hS2_⟩ : ∃ z, c_X3_changeSetting setting value S = z := ⟨_, rfl⟩
          rw [hS2_]
          refine g_nm (fun v3_ hv3_ => ?_)
          subst hv3_
          subst hS2_
          subst hS1_
          exact RET 51 _ (r_X3_changeSetting setting value S) _ dX4_set_51 rfl (by rw [r_X4_set, if_neg c_1, if_pos c_7, if_neg c_16, if_neg c_25]) ⟨p1, (by rw [c_X4_set_1, if_neg c_1, if_pos c_7, if_neg c_16, if_neg c_25, c_X4_set_y, if_neg c_1, if_pos c_7, if_neg c_16, if_neg c_25])⟩
        · skip
          refine g_bipush E (-2) dX4_set_28 (by decide) ?_
          refine g_widen (k1 := R_X4_set.cells) (n1 := R_X4_set.slots) (ok_le rfl) (ok_le rfl) ?_
          exact RET 30 _ (-2) _ dX4_set_30 rfl (by rw [r_X4_set, if_neg c_1, if_pos c_7, if_neg c_16, if_pos c_25]) ⟨p, (by rw [c_X4_set_1, if_neg c_1, if_pos c_7, if_neg c_16, if_pos c_25, c_X4_set_y, if_neg c_1, if_pos c_7, if_neg c_16, if_pos c_25])⟩
set_option maxHeartbeats 1000000 in
set_option maxRecDepth 100000 in
theorem t_X4_set (d : gD) (x : Nat → Nat) (a : Nat → Nat) (b : Nat → Nat) (c : Nat → Nat) (e : Nat → Nat) (setting : Int32) (value : Int32) (p : Nat → Nat → Nat) (q : Nat → Nat → Nat) (S : SS) (T : SS) (h : Nat → Int32) (t : Nat → Int32) (y : HS) (ss : Nat → Option SS) (hy : y.1 < 6 ∧ y.2.1 ≤ 6) : gMi d yX4_set cX4_set 3 (some .int) R_X4_set [.ref (x 0), .int setting, .int value] (XW d (x, a, b, c, e) p q S T h t y ss) (fun r_ u_ => r_ = r_X4_set setting value S y ∧ (∃ p_ : Nat → Nat → Nat, u_ = XW d (x, a, b, c, e) p_ q (c_X4_set_1 setting value S y) T h t (c_X4_set_y setting value S y) ss)) :=
  g_met_i RX4 rfl (by decide +kernel) (Nat.le_of_ble_eq_true rfl) [(0, .ref (x 0)), (1, .int setting), (2, .int value)] rfl (fun X E RET => s_X4_set_0 d x a b c e setting value p q S T h t y ss hy E (fun pc_ lv_ v_ u_ h1_ h2_ h3_ h4_ => RET pc_ lv_ v_ u_ h1_ h2_ ⟨h3_, h4_⟩))
abbrev R_X4_takeAlike : Room := { frames := 5, cells := 6, slots := 57, locals := 116 }
def r_X4_takeAlike_at34 (x1 : Int32) (y1 : Int32) (many : Int32) (S : SS) (y : HS) : Nat → (Nat) → (SS) → Int32
  | 0, _, _ => 0
  | n + 1, k, S1 => if (nI k) < many then (r_X4_takeAlike_at34 x1 y1 many S y n (k + 1) (c_X3_take x1 y1 S1)) else (r_X3_telling S1)
def c_X4_takeAlike_1_at34 (x1 : Int32) (y1 : Int32) (many : Int32) (S : SS) (y : HS) : Nat → (Nat) → (SS) → SS
  | 0, _, S1 => S1
  | n + 1, k, S1 => if (nI k) < many then (c_X4_takeAlike_1_at34 x1 y1 many S y n (k + 1) (c_X3_take x1 y1 S1)) else S1
def c_X4_takeAlike_y_at34 (x1 : Int32) (y1 : Int32) (many : Int32) (S : SS) (y : HS) : Nat → (Nat) → (SS) → HS
  | 0, _, _ => (c_X1_keep_y y S)
  | n + 1, k, S1 => if (nI k) < many then (c_X4_takeAlike_y_at34 x1 y1 many S y n (k + 1) (c_X3_take x1 y1 S1)) else (c_X1_keep_y y S)
def r_X4_takeAlike (x1 : Int32) (y1 : Int32) (many : Int32) (S : SS) (y : HS) : Int32 := if (r_X3_refusalOfSamples x1 y1 many S) = 0 then (r_X4_takeAlike_at34 x1 y1 many S y 201 0 S) else (r_X3_refusalOfSamples x1 y1 many S)
def c_X4_takeAlike_1 (x1 : Int32) (y1 : Int32) (many : Int32) (S : SS) (y : HS) : SS := if (r_X3_refusalOfSamples x1 y1 many S) = 0 then (c_X4_takeAlike_1_at34 x1 y1 many S y 201 0 S) else S
def c_X4_takeAlike_y (x1 : Int32) (y1 : Int32) (many : Int32) (S : SS) (y : HS) : HS := if (r_X3_refusalOfSamples x1 y1 many S) = 0 then (c_X4_takeAlike_y_at34 x1 y1 many S y 201 0 S) else y
set_option maxHeartbeats 1000000 in
set_option maxRecDepth 100000 in
theorem s_X4_takeAlike_34 (d : gD) (x : Nat → Nat) (a : Nat → Nat) (b : Nat → Nat) (c : Nat → Nat) (e : Nat → Nat) (x1 : Int32) (y1 : Int32) (many : Int32) (p : Nat → Nat → Nat) (q : Nat → Nat → Nat) (S : SS) (T : SS) (h : Nat → Int32) (t : Nat → Int32) (y : HS) (ss : Nat → Option SS) (hy : y.1 < 6 ∧ y.2.1 ≤ 6) (hu : ¬ S.2.2.1 0 < 0) (hm2 : many.toNatClampNeg ≤ 200 ∧ ¬ many < 0) {X : gX} (E : gE d X RX4 cX4_takeAlike 6 R_X4_takeAlike) : ∀ (n : Nat) (k : Nat) (S1 : SS) (p1 : Nat → Nat → Nat) (hk : k ≤ many.toNatClampNeg) (hu1 : ¬ S1.2.2.1 0 < 0) (hm : many.toNatClampNeg - k < n) (RET : ∀ (pc_ : Nat) (lv_ : List (Nat × Value)) (v_ : Int32) (u_ : va_W), decode cX4_takeAlike pc_ = .ok (.ireturn, 1) → narrow .int (.int v_) = .int v_ → v_ = r_X4_takeAlike_at34 x1 y1 many S y n k S1 → (∃ p_ : Nat → Nat → Nat, u_ = XW d (x, a, b, c, e) p_ q (c_X4_takeAlike_1_at34 x1 y1 many S y n k S1) T h t (c_X4_takeAlike_y_at34 x1 y1 many S y n k S1) ss) → G d X u_ R_X4_takeAlike.cells R_X4_takeAlike.slots pc_ lv_ [.int v_]), G d X (XW d (x, a, b, c, e) p1 q S1 T h t (c_X1_keep_y y S) ss) 6 57 34 [(0, .ref (x 0)), (1, .int x1), (2, .int y1), (3, .int many), (5, .int (nI k))] [] := by
  intro n
  induction n with
  | zero => intro k S1 p1 hk hu1 hm; omega
  | succ n ih =>
    intro k S1 p1 hk hu1 hm RET
    obtain ⟨S2_, hS2_⟩ : ∃ z, c_X1_keep_y y S = z := ⟨_, rfl⟩
    rw [hS2_]
    refine g_iload E 4 dX4_takeAlike_34 rfl ?_
    refine g_iload_n E 3 dX4_takeAlike_36 rfl rfl ?_
    refine g_icmpge E 55 dX4_takeAlike_37 (by decide) (fun c_37 => ?_) (fun c_37 => ?_)
    · skip
      refine g_aload_n E 0 dX4_takeAlike_55 rfl rfl ?_
      refine g_get E (ci := 4) inlX4 0 rfl rfl 0 (by decide) fl_X4_10 rfl (.ref (a 0)) rfl dX4_takeAlike_56 ?_
      refine g_eq (ws' := XO d x a b c e (qf q ss) ++ (SK d a S1 ++ (SK d b T ++ (PK d c h t ++ (HP d e p1 S2_ ++ PL d q ss 2))))) rfl ?_
      refine g_perm (ws' := (SK d a S1) ++ (XO d x a b c e (qf q ss) ++ (SK d b T ++ (PK d c h t ++ (HP d e p1 S2_ ++ PL d q ss 2))))) px1 ?_
      refine g_callViD E (wr := XO d x a b c e (qf q ss) ++ (SK d b T ++ (PK d c h t ++ (HP d e p1 S2_ ++ PL d q ss 2)))) gc_X3_telling ml_X4_63 (t_X3_telling d a S1 ) rfl rfl (ci := 3) 4 rfl rfl rfl rfl (ok_le rfl) ⟨ok_le rfl, ok_le rfl, ok_le rfl, ok_le rfl⟩ rfl rfl dX4_takeAlike_59 ?_
      refine g_perm (ws' := XO d x a b c e (qf q ss) ++ (SK d a S1 ++ (SK d b T ++ (PK d c h t ++ (HP d e p1 S2_ ++ PL d q ss 2))))) px1.symm ?_
      refine g_eq (ws' := XW d (x, a, b, c, e) p1 q S1 T h t S2_ ss) rfl ?_
      refine g_nm (fun v3_ hv3_ => ?_)
      subst hv3_
      subst hS2_
      exact RET 62 _ (r_X3_telling S1) _ dX4_takeAlike_62 rfl (by rw [r_X4_takeAlike_at34, if_neg c_37]) ⟨p1, (by rw [c_X4_takeAlike_1_at34, if_neg c_37, c_X4_takeAlike_y_at34, if_neg c_37])⟩
    · skip
      have k37 : k < many.toNatClampNeg := by have q := c_37; rw [ix_eq hm2.2] at q; exact (nI_ltI (by omega) (by omega)).mp q
      refine g_aload_n E 0 dX4_takeAlike_40 rfl rfl ?_
      refine g_get E (ci := 4) inlX4 0 rfl rfl 0 (by decide) fl_X4_10 rfl (.ref (a 0)) rfl dX4_takeAlike_41 ?_
      refine g_iload_n E 1 dX4_takeAlike_44 rfl rfl ?_
      refine g_iload_n E 2 dX4_takeAlike_45 rfl rfl ?_
      refine g_eq (ws' := XO d x a b c e (qf q ss) ++ (SK d a S1 ++ (SK d b T ++ (PK d c h t ++ (HP d e p1 S2_ ++ PL d q ss 2))))) rfl ?_
      refine g_perm (ws' := (SK d a S1) ++ (XO d x a b c e (qf q ss) ++ (SK d b T ++ (PK d c h t ++ (HP d e p1 S2_ ++ PL d q ss 2))))) px1 ?_
      refine g_callVvD E (wr := XO d x a b c e (qf q ss) ++ (SK d b T ++ (PK d c h t ++ (HP d e p1 S2_ ++ PL d q ss 2)))) gc_X3_take ml_X4_59 (t_X3_take d a x1 y1 S1 (by first | assumption | omega)) rfl rfl (ci := 3) 4 rfl rfl rfl rfl (ok_le rfl) ⟨ok_le rfl, ok_le rfl, ok_le rfl, ok_le rfl⟩ rfl rfl dX4_takeAlike_46 ?_
      refine g_perm (ws' := XO d x a b c e (qf q ss) ++ (SK d a (c_X3_take x1 y1 S1) ++ (SK d b T ++ (PK d c h t ++ (HP d e p1 S2_ ++ PL d q ss 2))))) px1.symm ?_
      refine g_eq (ws' := XW d (x, a, b, c, e) p1 q (c_X3_take x1 y1 S1) T h t S2_ ss) rfl ?_
      obtain ⟨S4_, hS4_⟩ : ∃ z, c_X3_take x1 y1 S1 = z := ⟨_, rfl⟩
      rw [hS4_]
      refine g_iinc E (j := 4) (v := (nI (k + 1))) (lv' := [(5, .int (nI (k + 1))), (0, .ref (x 0)), (1, .int x1), (2, .int y1), (3, .int many)]) dX4_takeAlike_49 rfl (nI_1 _) (by decide) rfl ?_
      refine g_goto E 34 dX4_takeAlike_52 (by decide) ?_
      refine g_lvs (lv' := [(0, .ref (x 0)), (1, .int x1), (2, .int y1), (3, .int many), (5, .int (nI (k + 1)))]) [1, 2, 3, 4, 0] rfl ?_
      subst hS4_
      subst hS2_
      exact ih (k + 1) (c_X3_take x1 y1 S1) p1 (by omega) (by subst_vars; with_reducible exact KU_take hu1) (by omega) (fun pc_ lv_ v_ u_ h1_ h2_ h3_ h4_ => RET pc_ lv_ v_ u_ h1_ h2_ (h3_.trans (by rw [r_X4_takeAlike_at34, if_pos c_37])) (h4_.imp (fun _ h5_ => h5_.trans (by rw [c_X4_takeAlike_1_at34, if_pos c_37, c_X4_takeAlike_y_at34, if_pos c_37]))))
set_option maxHeartbeats 1000000 in
set_option maxRecDepth 100000 in
theorem s_X4_takeAlike_0 (d : gD) (x : Nat → Nat) (a : Nat → Nat) (b : Nat → Nat) (c : Nat → Nat) (e : Nat → Nat) (x1 : Int32) (y1 : Int32) (many : Int32) (p : Nat → Nat → Nat) (q : Nat → Nat → Nat) (S : SS) (T : SS) (h : Nat → Int32) (t : Nat → Int32) (y : HS) (ss : Nat → Option SS) (hy : y.1 < 6 ∧ y.2.1 ≤ 6) (hu : ¬ S.2.2.1 0 < 0) (hm2 : many.toNatClampNeg ≤ 200 ∧ ¬ many < 0)  {X : gX} (E : gE d X RX4 cX4_takeAlike 6 R_X4_takeAlike) (RET : ∀ (pc_ : Nat) (lv_ : List (Nat × Value)) (v_ : Int32) (u_ : va_W), decode cX4_takeAlike pc_ = .ok (.ireturn, 1) → narrow .int (.int v_) = .int v_ → v_ = r_X4_takeAlike x1 y1 many S y → (∃ p_ : Nat → Nat → Nat, u_ = XW d (x, a, b, c, e) p_ q (c_X4_takeAlike_1 x1 y1 many S y) T h t (c_X4_takeAlike_y x1 y1 many S y) ss) → G d X u_ R_X4_takeAlike.cells R_X4_takeAlike.slots pc_ lv_ [.int v_]) : G d X (XW d (x, a, b, c, e) p q S T h t y ss) 0 0 0 [(0, .ref (x 0)), (1, .int x1), (2, .int y1), (3, .int many)] [] := by
  refine g_aload_n E 0 dX4_takeAlike_0 rfl rfl ?_
  refine g_get E (ci := 4) inlX4 0 rfl rfl 0 (by decide) fl_X4_10 rfl (.ref (a 0)) rfl dX4_takeAlike_1 ?_
  refine g_iload_n E 1 dX4_takeAlike_4 rfl rfl ?_
  refine g_iload_n E 2 dX4_takeAlike_5 rfl rfl ?_
  refine g_iload_n E 3 dX4_takeAlike_6 rfl rfl ?_
  refine g_eq (ws' := XO d x a b c e (qf q ss) ++ (SK d a S ++ (SK d b T ++ (PK d c h t ++ (HP d e p y ++ PL d q ss 2))))) rfl ?_
  refine g_perm (ws' := (SK d a S) ++ (XO d x a b c e (qf q ss) ++ (SK d b T ++ (PK d c h t ++ (HP d e p y ++ PL d q ss 2))))) px1 ?_
  refine g_callViD E (wr := XO d x a b c e (qf q ss) ++ (SK d b T ++ (PK d c h t ++ (HP d e p y ++ PL d q ss 2)))) gc_X3_refusalOfSamples ml_X4_56 (t_X3_refusalOfSamples d a x1 y1 many S ) rfl rfl (ci := 3) 4 rfl rfl rfl rfl (ok_le rfl) ⟨ok_le rfl, ok_le rfl, ok_le rfl, ok_le rfl⟩ rfl rfl dX4_takeAlike_7 ?_
  refine g_perm (ws' := XO d x a b c e (qf q ss) ++ (SK d a S ++ (SK d b T ++ (PK d c h t ++ (HP d e p y ++ PL d q ss 2))))) px1.symm ?_
  refine g_eq (ws' := XW d (x, a, b, c, e) p q S T h t y ss) rfl ?_
  refine g_nm (fun v1_ hv1_ => ?_)
  refine g_istore E (lv' := [(4, .int v1_), (0, .ref (x 0)), (1, .int x1), (2, .int y1), (3, .int many)]) dX4_takeAlike_10 (by decide) rfl ?_
  refine g_iload E 0 dX4_takeAlike_12 rfl ?_
  refine g_ifeq E 20 dX4_takeAlike_14 (by decide) (fun c_14 => ?_) (fun c_14 => ?_)
  · skip
    refine g_aload_n E 1 dX4_takeAlike_20 rfl rfl ?_
    refine g_get E (ci := 4) inlX4 0 rfl rfl 3 (by decide) fl_X4_29 rfl (.ref (e 0)) rfl dX4_takeAlike_21 ?_
    refine g_aload_n E 1 dX4_takeAlike_24 rfl rfl ?_
    refine g_get E (ci := 4) inlX4 0 rfl rfl 0 (by decide) fl_X4_10 rfl (.ref (a 0)) rfl dX4_takeAlike_25 ?_
    refine g_eq (ws' := XO d x a b c e (qf q ss) ++ (SK d a S ++ (SK d b T ++ (PK d c h t ++ (HP d e p y ++ PL d q ss 2))))) rfl ?_
    refine g_perm (ws' := (HP d e p y ++ SK d a S) ++ (XO d x a b c e (qf q ss) ++ (SK d b T ++ (PK d c h t ++ PL d q ss 2)))) px41 ?_
    refine g_callVv E (wr := XO d x a b c e (qf q ss) ++ (SK d b T ++ (PK d c h t ++ PL d q ss 2))) gc_X1_keep ml_X4_44 (t2_X1_keep d e a p y S hy.1 hy.2) rfl rfl (ci := 1) 0 rfl rfl rfl rfl (ok_le rfl) ⟨ok_le rfl, ok_le rfl, ok_le rfl, ok_le rfl⟩ rfl rfl dX4_takeAlike_28 ?_
    rintro u_ ⟨p1, rfl⟩
    refine g_perm (ws' := XO d x a b c e (qf q ss) ++ (SK d a S ++ (SK d b T ++ (PK d c h t ++ (HP d e p1 (c_X1_keep_y y S) ++ PL d q ss 2))))) px41.symm ?_
    refine g_eq (ws' := XW d (x, a, b, c, e) p1 q S T h t (c_X1_keep_y y S) ss) rfl ?_
    obtain ⟨S2_, hS2_⟩ : ∃ z, c_X1_keep_y y S = z := ⟨_, rfl⟩
    rw [hS2_]
    refine g_iconst E 0 dX4_takeAlike_31 (by decide) ?_
    refine g_istore E (lv' := [(5, .int 0), (4, .int v1_), (0, .ref (x 0)), (1, .int x1), (2, .int y1), (3, .int many)]) dX4_takeAlike_32 (by decide) rfl ?_
    refine g_lvs (lv' := [(0, .ref (x 0)), (1, .int x1), (2, .int y1), (3, .int many), (5, .int 0)]) [2, 3, 4, 5, 0] rfl ?_
    subst hS2_
    subst hv1_
    exact s_X4_takeAlike_34 d x a b c e x1 y1 many p q S T h t y ss hy hu hm2 E 201 0 S p1 (by omega) hu (by omega) (fun pc_ lv_ v_ u_ h1_ h2_ h3_ h4_ => RET pc_ lv_ v_ u_ h1_ h2_ (h3_.trans (by rw [r_X4_takeAlike, if_pos c_14])) (h4_.imp (fun _ h5_ => h5_.trans (by rw [c_X4_takeAlike_1, if_pos c_14, c_X4_takeAlike_y, if_pos c_14]))))
  · skip
    refine g_iload E 0 dX4_takeAlike_17 rfl ?_
    subst hv1_
    refine g_widen (k1 := R_X4_takeAlike.cells) (n1 := R_X4_takeAlike.slots) (ok_le rfl) (ok_le rfl) ?_
    exact RET 19 _ (r_X3_refusalOfSamples x1 y1 many S) _ dX4_takeAlike_19 rfl (by rw [r_X4_takeAlike, if_neg c_14]) ⟨p, (by rw [c_X4_takeAlike_1, if_neg c_14, c_X4_takeAlike_y, if_neg c_14])⟩
set_option maxHeartbeats 1000000 in
set_option maxRecDepth 100000 in
theorem t_X4_takeAlike (d : gD) (x : Nat → Nat) (a : Nat → Nat) (b : Nat → Nat) (c : Nat → Nat) (e : Nat → Nat) (x1 : Int32) (y1 : Int32) (many : Int32) (p : Nat → Nat → Nat) (q : Nat → Nat → Nat) (S : SS) (T : SS) (h : Nat → Int32) (t : Nat → Int32) (y : HS) (ss : Nat → Option SS) (hy : y.1 < 6 ∧ y.2.1 ≤ 6) (hu : ¬ S.2.2.1 0 < 0) (hm2 : many.toNatClampNeg ≤ 200 ∧ ¬ many < 0) : gMi d yX4_takeAlike cX4_takeAlike 6 (some .int) R_X4_takeAlike [.ref (x 0), .int x1, .int y1, .int many] (XW d (x, a, b, c, e) p q S T h t y ss) (fun r_ u_ => r_ = r_X4_takeAlike x1 y1 many S y ∧ (∃ p_ : Nat → Nat → Nat, u_ = XW d (x, a, b, c, e) p_ q (c_X4_takeAlike_1 x1 y1 many S y) T h t (c_X4_takeAlike_y x1 y1 many S y) ss)) :=
  g_met_i RX4 rfl (by decide +kernel) (Nat.le_of_ble_eq_true rfl) [(0, .ref (x 0)), (1, .int x1), (2, .int y1), (3, .int many)] rfl (fun X E RET => s_X4_takeAlike_0 d x a b c e x1 y1 many p q S T h t y ss hy hu hm2 E (fun pc_ lv_ v_ u_ h1_ h2_ h3_ h4_ => RET pc_ lv_ v_ u_ h1_ h2_ ⟨h3_, h4_⟩))
abbrev R_X4_sample : Room := { frames := 6, cells := 6, slots := 57, locals := 141 }
def r_X4_sample (x1 : Int32) (y1 : Int32) (S : SS) (y : HS) : Int32 := (r_X4_takeAlike x1 y1 1 S y)
def c_X4_sample_1 (x1 : Int32) (y1 : Int32) (S : SS) (y : HS) : SS := (c_X4_takeAlike_1 x1 y1 1 S y)
def c_X4_sample_y (x1 : Int32) (y1 : Int32) (S : SS) (y : HS) : HS := (c_X4_takeAlike_y x1 y1 1 S y)
set_option maxHeartbeats 1000000 in
set_option maxRecDepth 100000 in
theorem s_X4_sample_0 (d : gD) (x : Nat → Nat) (a : Nat → Nat) (b : Nat → Nat) (c : Nat → Nat) (e : Nat → Nat) (x1 : Int32) (y1 : Int32) (p : Nat → Nat → Nat) (q : Nat → Nat → Nat) (S : SS) (T : SS) (h : Nat → Int32) (t : Nat → Int32) (y : HS) (ss : Nat → Option SS) (hy : y.1 < 6 ∧ y.2.1 ≤ 6) (hu : ¬ S.2.2.1 0 < 0)  {X : gX} (E : gE d X RX4 cX4_sample 3 R_X4_sample) (RET : ∀ (pc_ : Nat) (lv_ : List (Nat × Value)) (v_ : Int32) (u_ : va_W), decode cX4_sample pc_ = .ok (.ireturn, 1) → narrow .int (.int v_) = .int v_ → v_ = r_X4_sample x1 y1 S y → (∃ p_ : Nat → Nat → Nat, u_ = XW d (x, a, b, c, e) p_ q (c_X4_sample_1 x1 y1 S y) T h t (c_X4_sample_y x1 y1 S y) ss) → G d X u_ R_X4_sample.cells R_X4_sample.slots pc_ lv_ [.int v_]) : G d X (XW d (x, a, b, c, e) p q S T h t y ss) 0 0 0 [(0, .ref (x 0)), (1, .int x1), (2, .int y1)] [] := by
  refine g_aload_n E 0 dX4_sample_0 rfl rfl ?_
  refine g_iload_n E 1 dX4_sample_1 rfl rfl ?_
  refine g_iload_n E 2 dX4_sample_2 rfl rfl ?_
  refine g_iconst E 1 dX4_sample_3 (by decide) ?_
  refine g_callVi E (wr := []) gc_X4_takeAlike ml_X4_52 (t_X4_takeAlike d x a b c e x1 y1 1 p q S T h t y ss hy hu (by decide)) rfl (List.append_nil _).symm (ci := 4) 0 rfl rfl rfl rfl (ok_le rfl) ⟨ok_le rfl, ok_le rfl, ok_le rfl, ok_le rfl⟩ rfl rfl dX4_sample_4 ?_
  rintro v_ u_ ⟨rfl, ⟨p1, rfl⟩⟩
  refine g_eq (ws' := XW d (x, a, b, c, e) p1 q (c_X4_takeAlike_1 x1 y1 1 S y) T h t (c_X4_takeAlike_y x1 y1 1 S y) ss) (List.append_nil _) ?_
  obtain ⟨S1_, hS1_⟩ : ∃ z, c_X4_takeAlike_1 x1 y1 1 S y = z := ⟨_, rfl⟩
  rw [hS1_]
  obtain ⟨S2_, hS2_⟩ : ∃ z, c_X4_takeAlike_y x1 y1 1 S y = z := ⟨_, rfl⟩
  rw [hS2_]
  refine g_nm (fun v3_ hv3_ => ?_)
  subst hv3_
  subst hS2_
  subst hS1_
  exact RET 7 _ (r_X4_takeAlike x1 y1 1 S y) _ dX4_sample_7 rfl (by rw [r_X4_sample]) ⟨p1, (by rw [c_X4_sample_1, c_X4_sample_y])⟩
set_option maxHeartbeats 1000000 in
set_option maxRecDepth 100000 in
theorem t_X4_sample (d : gD) (x : Nat → Nat) (a : Nat → Nat) (b : Nat → Nat) (c : Nat → Nat) (e : Nat → Nat) (x1 : Int32) (y1 : Int32) (p : Nat → Nat → Nat) (q : Nat → Nat → Nat) (S : SS) (T : SS) (h : Nat → Int32) (t : Nat → Int32) (y : HS) (ss : Nat → Option SS) (hy : y.1 < 6 ∧ y.2.1 ≤ 6) (hu : ¬ S.2.2.1 0 < 0) : gMi d yX4_sample cX4_sample 3 (some .int) R_X4_sample [.ref (x 0), .int x1, .int y1] (XW d (x, a, b, c, e) p q S T h t y ss) (fun r_ u_ => r_ = r_X4_sample x1 y1 S y ∧ (∃ p_ : Nat → Nat → Nat, u_ = XW d (x, a, b, c, e) p_ q (c_X4_sample_1 x1 y1 S y) T h t (c_X4_sample_y x1 y1 S y) ss)) :=
  g_met_i RX4 rfl (by decide +kernel) (Nat.le_of_ble_eq_true rfl) [(0, .ref (x 0)), (1, .int x1), (2, .int y1)] rfl (fun X E RET => s_X4_sample_0 d x a b c e x1 y1 p q S T h t y ss hy hu E (fun pc_ lv_ v_ u_ h1_ h2_ h3_ h4_ => RET pc_ lv_ v_ u_ h1_ h2_ ⟨h3_, h4_⟩))
abbrev R_X4_hold : Room := { frames := 6, cells := 6, slots := 57, locals := 141 }
def r_X4_hold (x1 : Int32) (y1 : Int32) (many : Int32) (S : SS) (y : HS) : Int32 := if many < 1 then (-2) else (if 200 < many then (-2) else (r_X4_takeAlike x1 y1 many S y))
def c_X4_hold_1 (x1 : Int32) (y1 : Int32) (many : Int32) (S : SS) (y : HS) : SS := if many < 1 then S else (if 200 < many then S else (c_X4_takeAlike_1 x1 y1 many S y))
def c_X4_hold_y (x1 : Int32) (y1 : Int32) (many : Int32) (S : SS) (y : HS) : HS := if many < 1 then y else (if 200 < many then y else (c_X4_takeAlike_y x1 y1 many S y))
set_option maxHeartbeats 1000000 in
set_option maxRecDepth 100000 in
theorem s_X4_hold_0 (d : gD) (x : Nat → Nat) (a : Nat → Nat) (b : Nat → Nat) (c : Nat → Nat) (e : Nat → Nat) (x1 : Int32) (y1 : Int32) (many : Int32) (p : Nat → Nat → Nat) (q : Nat → Nat → Nat) (S : SS) (T : SS) (h : Nat → Int32) (t : Nat → Int32) (y : HS) (ss : Nat → Option SS) (hy : y.1 < 6 ∧ y.2.1 ≤ 6) (hu : ¬ S.2.2.1 0 < 0)  {X : gX} (E : gE d X RX4 cX4_hold 4 R_X4_hold) (RET : ∀ (pc_ : Nat) (lv_ : List (Nat × Value)) (v_ : Int32) (u_ : va_W), decode cX4_hold pc_ = .ok (.ireturn, 1) → narrow .int (.int v_) = .int v_ → v_ = r_X4_hold x1 y1 many S y → (∃ p_ : Nat → Nat → Nat, u_ = XW d (x, a, b, c, e) p_ q (c_X4_hold_1 x1 y1 many S y) T h t (c_X4_hold_y x1 y1 many S y) ss) → G d X u_ R_X4_hold.cells R_X4_hold.slots pc_ lv_ [.int v_]) : G d X (XW d (x, a, b, c, e) p q S T h t y ss) 0 0 0 [(0, .ref (x 0)), (1, .int x1), (2, .int y1), (3, .int many)] [] := by
  refine g_iload_n E 3 dX4_hold_0 rfl rfl ?_
  refine g_iconst E 1 dX4_hold_1 (by decide) ?_
  refine g_icmplt E 12 dX4_hold_2 (by decide) (fun c_2 => ?_) (fun c_2 => ?_)
  · skip
    refine g_bipush E (-2) dX4_hold_12 (by decide) ?_
    refine g_widen (k1 := R_X4_hold.cells) (n1 := R_X4_hold.slots) (ok_le rfl) (ok_le rfl) ?_
    exact RET 14 _ (-2) _ dX4_hold_14 rfl (by rw [r_X4_hold, if_pos c_2]) ⟨p, (by rw [c_X4_hold_1, if_pos c_2, c_X4_hold_y, if_pos c_2])⟩
  · skip
    refine g_iload_n E 3 dX4_hold_5 rfl rfl ?_
    refine g_sipush E 200 dX4_hold_6 (by decide) ?_
    refine g_icmple E 15 dX4_hold_9 (by decide) (fun c_9 => ?_) (fun c_9 => ?_)
    · skip
      refine g_aload_n E 0 dX4_hold_15 rfl rfl ?_
      refine g_iload_n E 1 dX4_hold_16 rfl rfl ?_
      refine g_iload_n E 2 dX4_hold_17 rfl rfl ?_
      refine g_iload_n E 3 dX4_hold_18 rfl rfl ?_
      refine g_callVi E (wr := []) gc_X4_takeAlike ml_X4_52 (t_X4_takeAlike d x a b c e x1 y1 many p q S T h t y ss hy hu (many_ok c_2 c_9)) rfl (List.append_nil _).symm (ci := 4) 0 rfl rfl rfl rfl (ok_le rfl) ⟨ok_le rfl, ok_le rfl, ok_le rfl, ok_le rfl⟩ rfl rfl dX4_hold_19 ?_
      rintro v_ u_ ⟨rfl, ⟨p1, rfl⟩⟩
      refine g_eq (ws' := XW d (x, a, b, c, e) p1 q (c_X4_takeAlike_1 x1 y1 many S y) T h t (c_X4_takeAlike_y x1 y1 many S y) ss) (List.append_nil _) ?_
      obtain ⟨S1_, hS1_⟩ : ∃ z, c_X4_takeAlike_1 x1 y1 many S y = z := ⟨_, rfl⟩
      rw [hS1_]
      obtain ⟨S2_, hS2_⟩ : ∃ z, c_X4_takeAlike_y x1 y1 many S y = z := ⟨_, rfl⟩
      rw [hS2_]
      refine g_nm (fun v3_ hv3_ => ?_)
      subst hv3_
      subst hS2_
      subst hS1_
      exact RET 22 _ (r_X4_takeAlike x1 y1 many S y) _ dX4_hold_22 rfl (by rw [r_X4_hold, if_neg c_2, if_neg c_9]) ⟨p1, (by rw [c_X4_hold_1, if_neg c_2, if_neg c_9, c_X4_hold_y, if_neg c_2, if_neg c_9])⟩
    · skip
      refine g_bipush E (-2) dX4_hold_12 (by decide) ?_
      refine g_widen (k1 := R_X4_hold.cells) (n1 := R_X4_hold.slots) (ok_le rfl) (ok_le rfl) ?_
      exact RET 14 _ (-2) _ dX4_hold_14 rfl (by rw [r_X4_hold, if_neg c_2, if_pos c_9]) ⟨p, (by rw [c_X4_hold_1, if_neg c_2, if_pos c_9, c_X4_hold_y, if_neg c_2, if_pos c_9])⟩
set_option maxHeartbeats 1000000 in
set_option maxRecDepth 100000 in
theorem t_X4_hold (d : gD) (x : Nat → Nat) (a : Nat → Nat) (b : Nat → Nat) (c : Nat → Nat) (e : Nat → Nat) (x1 : Int32) (y1 : Int32) (many : Int32) (p : Nat → Nat → Nat) (q : Nat → Nat → Nat) (S : SS) (T : SS) (h : Nat → Int32) (t : Nat → Int32) (y : HS) (ss : Nat → Option SS) (hy : y.1 < 6 ∧ y.2.1 ≤ 6) (hu : ¬ S.2.2.1 0 < 0) : gMi d yX4_hold cX4_hold 4 (some .int) R_X4_hold [.ref (x 0), .int x1, .int y1, .int many] (XW d (x, a, b, c, e) p q S T h t y ss) (fun r_ u_ => r_ = r_X4_hold x1 y1 many S y ∧ (∃ p_ : Nat → Nat → Nat, u_ = XW d (x, a, b, c, e) p_ q (c_X4_hold_1 x1 y1 many S y) T h t (c_X4_hold_y x1 y1 many S y) ss)) :=
  g_met_i RX4 rfl (by decide +kernel) (Nat.le_of_ble_eq_true rfl) [(0, .ref (x 0)), (1, .int x1), (2, .int y1), (3, .int many)] rfl (fun X E RET => s_X4_hold_0 d x a b c e x1 y1 many p q S T h t y ss hy hu E (fun pc_ lv_ v_ u_ h1_ h2_ h3_ h4_ => RET pc_ lv_ v_ u_ h1_ h2_ ⟨h3_, h4_⟩))
abbrev R_X4_press : Room := { frames := 4, cells := 6, slots := 57, locals := 86 }
def r_X4_press (button : Int32) (S : SS) (y : HS) : Int32 := if (r_X3_refusalOfPress button S) = 0 then (r_X3_pushDown button S) else (r_X3_refusalOfPress button S)
def c_X4_press_1 (button : Int32) (S : SS) (y : HS) : SS := if (r_X3_refusalOfPress button S) = 0 then (c_X3_pushDown button S) else S
def c_X4_press_y (button : Int32) (S : SS) (y : HS) : HS := if (r_X3_refusalOfPress button S) = 0 then (c_X1_keep_y y S) else y
set_option maxHeartbeats 1000000 in
set_option maxRecDepth 100000 in
theorem s_X4_press_0 (d : gD) (x : Nat → Nat) (a : Nat → Nat) (b : Nat → Nat) (c : Nat → Nat) (e : Nat → Nat) (button : Int32) (p : Nat → Nat → Nat) (q : Nat → Nat → Nat) (S : SS) (T : SS) (h : Nat → Int32) (t : Nat → Int32) (y : HS) (ss : Nat → Option SS) (hy : y.1 < 6 ∧ y.2.1 ≤ 6)  {X : gX} (E : gE d X RX4 cX4_press 3 R_X4_press) (RET : ∀ (pc_ : Nat) (lv_ : List (Nat × Value)) (v_ : Int32) (u_ : va_W), decode cX4_press pc_ = .ok (.ireturn, 1) → narrow .int (.int v_) = .int v_ → v_ = r_X4_press button S y → (∃ p_ : Nat → Nat → Nat, u_ = XW d (x, a, b, c, e) p_ q (c_X4_press_1 button S y) T h t (c_X4_press_y button S y) ss) → G d X u_ R_X4_press.cells R_X4_press.slots pc_ lv_ [.int v_]) : G d X (XW d (x, a, b, c, e) p q S T h t y ss) 0 0 0 [(0, .ref (x 0)), (1, .int button)] [] := by
  refine g_aload_n E 0 dX4_press_0 rfl rfl ?_
  refine g_get E (ci := 4) inlX4 0 rfl rfl 0 (by decide) fl_X4_10 rfl (.ref (a 0)) rfl dX4_press_1 ?_
  refine g_iload_n E 1 dX4_press_4 rfl rfl ?_
  refine g_eq (ws' := XO d x a b c e (qf q ss) ++ (SK d a S ++ (SK d b T ++ (PK d c h t ++ (HP d e p y ++ PL d q ss 2))))) rfl ?_
  refine g_perm (ws' := (SK d a S) ++ (XO d x a b c e (qf q ss) ++ (SK d b T ++ (PK d c h t ++ (HP d e p y ++ PL d q ss 2))))) px1 ?_
  refine g_callViD E (wr := XO d x a b c e (qf q ss) ++ (SK d b T ++ (PK d c h t ++ (HP d e p y ++ PL d q ss 2)))) gc_X3_refusalOfPress ml_X4_67 (t_X3_refusalOfPress d a button S ) rfl rfl (ci := 3) 4 rfl rfl rfl rfl (ok_le rfl) ⟨ok_le rfl, ok_le rfl, ok_le rfl, ok_le rfl⟩ rfl rfl dX4_press_5 ?_
  refine g_perm (ws' := XO d x a b c e (qf q ss) ++ (SK d a S ++ (SK d b T ++ (PK d c h t ++ (HP d e p y ++ PL d q ss 2))))) px1.symm ?_
  refine g_eq (ws' := XW d (x, a, b, c, e) p q S T h t y ss) rfl ?_
  refine g_nm (fun v1_ hv1_ => ?_)
  refine g_istore_n E (lv' := [(2, .int v1_), (0, .ref (x 0)), (1, .int button)]) dX4_press_8 rfl (by decide) rfl ?_
  refine g_iload_n E 0 dX4_press_9 rfl rfl ?_
  refine g_ifeq E 15 dX4_press_10 (by decide) (fun c_10 => ?_) (fun c_10 => ?_)
  · skip
    refine g_aload_n E 1 dX4_press_15 rfl rfl ?_
    refine g_get E (ci := 4) inlX4 0 rfl rfl 3 (by decide) fl_X4_29 rfl (.ref (e 0)) rfl dX4_press_16 ?_
    refine g_aload_n E 1 dX4_press_19 rfl rfl ?_
    refine g_get E (ci := 4) inlX4 0 rfl rfl 0 (by decide) fl_X4_10 rfl (.ref (a 0)) rfl dX4_press_20 ?_
    refine g_eq (ws' := XO d x a b c e (qf q ss) ++ (SK d a S ++ (SK d b T ++ (PK d c h t ++ (HP d e p y ++ PL d q ss 2))))) rfl ?_
    refine g_perm (ws' := (HP d e p y ++ SK d a S) ++ (XO d x a b c e (qf q ss) ++ (SK d b T ++ (PK d c h t ++ PL d q ss 2)))) px41 ?_
    refine g_callVv E (wr := XO d x a b c e (qf q ss) ++ (SK d b T ++ (PK d c h t ++ PL d q ss 2))) gc_X1_keep ml_X4_44 (t2_X1_keep d e a p y S hy.1 hy.2) rfl rfl (ci := 1) 0 rfl rfl rfl rfl (ok_le rfl) ⟨ok_le rfl, ok_le rfl, ok_le rfl, ok_le rfl⟩ rfl rfl dX4_press_23 ?_
    rintro u_ ⟨p1, rfl⟩
    refine g_perm (ws' := XO d x a b c e (qf q ss) ++ (SK d a S ++ (SK d b T ++ (PK d c h t ++ (HP d e p1 (c_X1_keep_y y S) ++ PL d q ss 2))))) px41.symm ?_
    refine g_eq (ws' := XW d (x, a, b, c, e) p1 q S T h t (c_X1_keep_y y S) ss) rfl ?_
    obtain ⟨S2_, hS2_⟩ : ∃ z, c_X1_keep_y y S = z := ⟨_, rfl⟩
    rw [hS2_]
    refine g_aload_n E 1 dX4_press_26 rfl rfl ?_
    refine g_get E (ci := 4) inlX4 0 rfl rfl 0 (by decide) fl_X4_10 rfl (.ref (a 0)) rfl dX4_press_27 ?_
    refine g_iload_n E 2 dX4_press_30 rfl rfl ?_
    refine g_eq (ws' := XO d x a b c e (qf q ss) ++ (SK d a S ++ (SK d b T ++ (PK d c h t ++ (HP d e p1 S2_ ++ PL d q ss 2))))) rfl ?_
    refine g_perm (ws' := (SK d a S) ++ (XO d x a b c e (qf q ss) ++ (SK d b T ++ (PK d c h t ++ (HP d e p1 S2_ ++ PL d q ss 2))))) px1 ?_
    refine g_callViD E (wr := XO d x a b c e (qf q ss) ++ (SK d b T ++ (PK d c h t ++ (HP d e p1 S2_ ++ PL d q ss 2)))) gc_X3_pushDown ml_X4_71 (t_X3_pushDown d a button S ) rfl rfl (ci := 3) 4 rfl rfl rfl rfl (ok_le rfl) ⟨ok_le rfl, ok_le rfl, ok_le rfl, ok_le rfl⟩ rfl rfl dX4_press_31 ?_
    refine g_perm (ws' := XO d x a b c e (qf q ss) ++ (SK d a (c_X3_pushDown button S) ++ (SK d b T ++ (PK d c h t ++ (HP d e p1 S2_ ++ PL d q ss 2))))) px1.symm ?_
    refine g_eq (ws' := XW d (x, a, b, c, e) p1 q (c_X3_pushDown button S) T h t S2_ ss) rfl ?_
    obtain ⟨S3_, hS3_⟩ : ∃ z, c_X3_pushDown button S = z := ⟨_, rfl⟩
    rw [hS3_]
    refine g_nm (fun v4_ hv4_ => ?_)
    subst hv4_
    subst hS3_
    subst hS2_
    subst hv1_
    exact RET 34 _ (r_X3_pushDown button S) _ dX4_press_34 rfl (by rw [r_X4_press, if_pos c_10]) ⟨p1, (by rw [c_X4_press_1, if_pos c_10, c_X4_press_y, if_pos c_10])⟩
  · skip
    refine g_iload_n E 0 dX4_press_13 rfl rfl ?_
    subst hv1_
    refine g_widen (k1 := R_X4_press.cells) (n1 := R_X4_press.slots) (ok_le rfl) (ok_le rfl) ?_
    exact RET 14 _ (r_X3_refusalOfPress button S) _ dX4_press_14 rfl (by rw [r_X4_press, if_neg c_10]) ⟨p, (by rw [c_X4_press_1, if_neg c_10, c_X4_press_y, if_neg c_10])⟩
set_option maxHeartbeats 1000000 in
set_option maxRecDepth 100000 in
theorem t_X4_press (d : gD) (x : Nat → Nat) (a : Nat → Nat) (b : Nat → Nat) (c : Nat → Nat) (e : Nat → Nat) (button : Int32) (p : Nat → Nat → Nat) (q : Nat → Nat → Nat) (S : SS) (T : SS) (h : Nat → Int32) (t : Nat → Int32) (y : HS) (ss : Nat → Option SS) (hy : y.1 < 6 ∧ y.2.1 ≤ 6) : gMi d yX4_press cX4_press 3 (some .int) R_X4_press [.ref (x 0), .int button] (XW d (x, a, b, c, e) p q S T h t y ss) (fun r_ u_ => r_ = r_X4_press button S y ∧ (∃ p_ : Nat → Nat → Nat, u_ = XW d (x, a, b, c, e) p_ q (c_X4_press_1 button S y) T h t (c_X4_press_y button S y) ss)) :=
  g_met_i RX4 rfl (by decide +kernel) (Nat.le_of_ble_eq_true rfl) [(0, .ref (x 0)), (1, .int button)] rfl (fun X E RET => s_X4_press_0 d x a b c e button p q S T h t y ss hy E (fun pc_ lv_ v_ u_ h1_ h2_ h3_ h4_ => RET pc_ lv_ v_ u_ h1_ h2_ ⟨h3_, h4_⟩))
abbrev R_X4_letUp : Room := { frames := 4, cells := 6, slots := 57, locals := 86 }
def r_X4_letUp (button : Int32) (S : SS) (y : HS) : Int32 := if (r_X3_refusalOfLetUp button S) = 0 then (r_X3_release button S) else (r_X3_refusalOfLetUp button S)
def c_X4_letUp_1 (button : Int32) (S : SS) (y : HS) : SS := if (r_X3_refusalOfLetUp button S) = 0 then (c_X3_release button S) else S
def c_X4_letUp_y (button : Int32) (S : SS) (y : HS) : HS := if (r_X3_refusalOfLetUp button S) = 0 then (c_X1_keep_y y S) else y
set_option maxHeartbeats 1000000 in
set_option maxRecDepth 100000 in
theorem s_X4_letUp_0 (d : gD) (x : Nat → Nat) (a : Nat → Nat) (b : Nat → Nat) (c : Nat → Nat) (e : Nat → Nat) (button : Int32) (p : Nat → Nat → Nat) (q : Nat → Nat → Nat) (S : SS) (T : SS) (h : Nat → Int32) (t : Nat → Int32) (y : HS) (ss : Nat → Option SS) (hy : y.1 < 6 ∧ y.2.1 ≤ 6)  {X : gX} (E : gE d X RX4 cX4_letUp 3 R_X4_letUp) (RET : ∀ (pc_ : Nat) (lv_ : List (Nat × Value)) (v_ : Int32) (u_ : va_W), decode cX4_letUp pc_ = .ok (.ireturn, 1) → narrow .int (.int v_) = .int v_ → v_ = r_X4_letUp button S y → (∃ p_ : Nat → Nat → Nat, u_ = XW d (x, a, b, c, e) p_ q (c_X4_letUp_1 button S y) T h t (c_X4_letUp_y button S y) ss) → G d X u_ R_X4_letUp.cells R_X4_letUp.slots pc_ lv_ [.int v_]) : G d X (XW d (x, a, b, c, e) p q S T h t y ss) 0 0 0 [(0, .ref (x 0)), (1, .int button)] [] := by
  refine g_aload_n E 0 dX4_letUp_0 rfl rfl ?_
  refine g_get E (ci := 4) inlX4 0 rfl rfl 0 (by decide) fl_X4_10 rfl (.ref (a 0)) rfl dX4_letUp_1 ?_
  refine g_iload_n E 1 dX4_letUp_4 rfl rfl ?_
  refine g_eq (ws' := XO d x a b c e (qf q ss) ++ (SK d a S ++ (SK d b T ++ (PK d c h t ++ (HP d e p y ++ PL d q ss 2))))) rfl ?_
  refine g_perm (ws' := (SK d a S) ++ (XO d x a b c e (qf q ss) ++ (SK d b T ++ (PK d c h t ++ (HP d e p y ++ PL d q ss 2))))) px1 ?_
  refine g_callViD E (wr := XO d x a b c e (qf q ss) ++ (SK d b T ++ (PK d c h t ++ (HP d e p y ++ PL d q ss 2)))) gc_X3_refusalOfLetUp ml_X4_74 (t_X3_refusalOfLetUp d a button S ) rfl rfl (ci := 3) 4 rfl rfl rfl rfl (ok_le rfl) ⟨ok_le rfl, ok_le rfl, ok_le rfl, ok_le rfl⟩ rfl rfl dX4_letUp_5 ?_
  refine g_perm (ws' := XO d x a b c e (qf q ss) ++ (SK d a S ++ (SK d b T ++ (PK d c h t ++ (HP d e p y ++ PL d q ss 2))))) px1.symm ?_
  refine g_eq (ws' := XW d (x, a, b, c, e) p q S T h t y ss) rfl ?_
  refine g_nm (fun v1_ hv1_ => ?_)
  refine g_istore_n E (lv' := [(2, .int v1_), (0, .ref (x 0)), (1, .int button)]) dX4_letUp_8 rfl (by decide) rfl ?_
  refine g_iload_n E 0 dX4_letUp_9 rfl rfl ?_
  refine g_ifeq E 15 dX4_letUp_10 (by decide) (fun c_10 => ?_) (fun c_10 => ?_)
  · skip
    refine g_aload_n E 1 dX4_letUp_15 rfl rfl ?_
    refine g_get E (ci := 4) inlX4 0 rfl rfl 3 (by decide) fl_X4_29 rfl (.ref (e 0)) rfl dX4_letUp_16 ?_
    refine g_aload_n E 1 dX4_letUp_19 rfl rfl ?_
    refine g_get E (ci := 4) inlX4 0 rfl rfl 0 (by decide) fl_X4_10 rfl (.ref (a 0)) rfl dX4_letUp_20 ?_
    refine g_eq (ws' := XO d x a b c e (qf q ss) ++ (SK d a S ++ (SK d b T ++ (PK d c h t ++ (HP d e p y ++ PL d q ss 2))))) rfl ?_
    refine g_perm (ws' := (HP d e p y ++ SK d a S) ++ (XO d x a b c e (qf q ss) ++ (SK d b T ++ (PK d c h t ++ PL d q ss 2)))) px41 ?_
    refine g_callVv E (wr := XO d x a b c e (qf q ss) ++ (SK d b T ++ (PK d c h t ++ PL d q ss 2))) gc_X1_keep ml_X4_44 (t2_X1_keep d e a p y S hy.1 hy.2) rfl rfl (ci := 1) 0 rfl rfl rfl rfl (ok_le rfl) ⟨ok_le rfl, ok_le rfl, ok_le rfl, ok_le rfl⟩ rfl rfl dX4_letUp_23 ?_
    rintro u_ ⟨p1, rfl⟩
    refine g_perm (ws' := XO d x a b c e (qf q ss) ++ (SK d a S ++ (SK d b T ++ (PK d c h t ++ (HP d e p1 (c_X1_keep_y y S) ++ PL d q ss 2))))) px41.symm ?_
    refine g_eq (ws' := XW d (x, a, b, c, e) p1 q S T h t (c_X1_keep_y y S) ss) rfl ?_
    obtain ⟨S2_, hS2_⟩ : ∃ z, c_X1_keep_y y S = z := ⟨_, rfl⟩
    rw [hS2_]
    refine g_aload_n E 1 dX4_letUp_26 rfl rfl ?_
    refine g_get E (ci := 4) inlX4 0 rfl rfl 0 (by decide) fl_X4_10 rfl (.ref (a 0)) rfl dX4_letUp_27 ?_
    refine g_iload_n E 2 dX4_letUp_30 rfl rfl ?_
    refine g_eq (ws' := XO d x a b c e (qf q ss) ++ (SK d a S ++ (SK d b T ++ (PK d c h t ++ (HP d e p1 S2_ ++ PL d q ss 2))))) rfl ?_
    refine g_perm (ws' := (SK d a S) ++ (XO d x a b c e (qf q ss) ++ (SK d b T ++ (PK d c h t ++ (HP d e p1 S2_ ++ PL d q ss 2))))) px1 ?_
    refine g_callViD E (wr := XO d x a b c e (qf q ss) ++ (SK d b T ++ (PK d c h t ++ (HP d e p1 S2_ ++ PL d q ss 2)))) gc_X3_release ml_X4_77 (t_X3_release d a button S ) rfl rfl (ci := 3) 4 rfl rfl rfl rfl (ok_le rfl) ⟨ok_le rfl, ok_le rfl, ok_le rfl, ok_le rfl⟩ rfl rfl dX4_letUp_31 ?_
    refine g_perm (ws' := XO d x a b c e (qf q ss) ++ (SK d a (c_X3_release button S) ++ (SK d b T ++ (PK d c h t ++ (HP d e p1 S2_ ++ PL d q ss 2))))) px1.symm ?_
    refine g_eq (ws' := XW d (x, a, b, c, e) p1 q (c_X3_release button S) T h t S2_ ss) rfl ?_
    obtain ⟨S3_, hS3_⟩ : ∃ z, c_X3_release button S = z := ⟨_, rfl⟩
    rw [hS3_]
    refine g_nm (fun v4_ hv4_ => ?_)
    subst hv4_
    subst hS3_
    subst hS2_
    subst hv1_
    exact RET 34 _ (r_X3_release button S) _ dX4_letUp_34 rfl (by rw [r_X4_letUp, if_pos c_10]) ⟨p1, (by rw [c_X4_letUp_1, if_pos c_10, c_X4_letUp_y, if_pos c_10])⟩
  · skip
    refine g_iload_n E 0 dX4_letUp_13 rfl rfl ?_
    subst hv1_
    refine g_widen (k1 := R_X4_letUp.cells) (n1 := R_X4_letUp.slots) (ok_le rfl) (ok_le rfl) ?_
    exact RET 14 _ (r_X3_refusalOfLetUp button S) _ dX4_letUp_14 rfl (by rw [r_X4_letUp, if_neg c_10]) ⟨p, (by rw [c_X4_letUp_1, if_neg c_10, c_X4_letUp_y, if_neg c_10])⟩
set_option maxHeartbeats 1000000 in
set_option maxRecDepth 100000 in
theorem t_X4_letUp (d : gD) (x : Nat → Nat) (a : Nat → Nat) (b : Nat → Nat) (c : Nat → Nat) (e : Nat → Nat) (button : Int32) (p : Nat → Nat → Nat) (q : Nat → Nat → Nat) (S : SS) (T : SS) (h : Nat → Int32) (t : Nat → Int32) (y : HS) (ss : Nat → Option SS) (hy : y.1 < 6 ∧ y.2.1 ≤ 6) : gMi d yX4_letUp cX4_letUp 3 (some .int) R_X4_letUp [.ref (x 0), .int button] (XW d (x, a, b, c, e) p q S T h t y ss) (fun r_ u_ => r_ = r_X4_letUp button S y ∧ (∃ p_ : Nat → Nat → Nat, u_ = XW d (x, a, b, c, e) p_ q (c_X4_letUp_1 button S y) T h t (c_X4_letUp_y button S y) ss)) :=
  g_met_i RX4 rfl (by decide +kernel) (Nat.le_of_ble_eq_true rfl) [(0, .ref (x 0)), (1, .int button)] rfl (fun X E RET => s_X4_letUp_0 d x a b c e button p q S T h t y ss hy E (fun pc_ lv_ v_ u_ h1_ h2_ h3_ h4_ => RET pc_ lv_ v_ u_ h1_ h2_ ⟨h3_, h4_⟩))
abbrev R_X4_reset : Room := { frames := 4, cells := 6, slots := 57, locals := 86 }
def r_X4_reset (S : SS) (y : HS) : Int32 := (r_X3_toMiddle S)
def c_X4_reset_1 (S : SS) (y : HS) : SS := (c_X3_toMiddle S)
def c_X4_reset_y (S : SS) (y : HS) : HS := (c_X1_keep_y y S)
set_option maxHeartbeats 1000000 in
set_option maxRecDepth 100000 in
theorem s_X4_reset_0 (d : gD) (x : Nat → Nat) (a : Nat → Nat) (b : Nat → Nat) (c : Nat → Nat) (e : Nat → Nat) (p : Nat → Nat → Nat) (q : Nat → Nat → Nat) (S : SS) (T : SS) (h : Nat → Int32) (t : Nat → Int32) (y : HS) (ss : Nat → Option SS) (hy : y.1 < 6 ∧ y.2.1 ≤ 6)  {X : gX} (E : gE d X RX4 cX4_reset 1 R_X4_reset) (RET : ∀ (pc_ : Nat) (lv_ : List (Nat × Value)) (v_ : Int32) (u_ : va_W), decode cX4_reset pc_ = .ok (.ireturn, 1) → narrow .int (.int v_) = .int v_ → v_ = r_X4_reset S y → (∃ p_ : Nat → Nat → Nat, u_ = XW d (x, a, b, c, e) p_ q (c_X4_reset_1 S y) T h t (c_X4_reset_y S y) ss) → G d X u_ R_X4_reset.cells R_X4_reset.slots pc_ lv_ [.int v_]) : G d X (XW d (x, a, b, c, e) p q S T h t y ss) 0 0 0 [(0, .ref (x 0))] [] := by
  refine g_aload_n E 0 dX4_reset_0 rfl rfl ?_
  refine g_get E (ci := 4) inlX4 0 rfl rfl 3 (by decide) fl_X4_29 rfl (.ref (e 0)) rfl dX4_reset_1 ?_
  refine g_aload_n E 0 dX4_reset_4 rfl rfl ?_
  refine g_get E (ci := 4) inlX4 0 rfl rfl 0 (by decide) fl_X4_10 rfl (.ref (a 0)) rfl dX4_reset_5 ?_
  refine g_eq (ws' := XO d x a b c e (qf q ss) ++ (SK d a S ++ (SK d b T ++ (PK d c h t ++ (HP d e p y ++ PL d q ss 2))))) rfl ?_
  refine g_perm (ws' := (HP d e p y ++ SK d a S) ++ (XO d x a b c e (qf q ss) ++ (SK d b T ++ (PK d c h t ++ PL d q ss 2)))) px41 ?_
  refine g_callVv E (wr := XO d x a b c e (qf q ss) ++ (SK d b T ++ (PK d c h t ++ PL d q ss 2))) gc_X1_keep ml_X4_44 (t2_X1_keep d e a p y S hy.1 hy.2) rfl rfl (ci := 1) 0 rfl rfl rfl rfl (ok_le rfl) ⟨ok_le rfl, ok_le rfl, ok_le rfl, ok_le rfl⟩ rfl rfl dX4_reset_8 ?_
  rintro u_ ⟨p1, rfl⟩
  refine g_perm (ws' := XO d x a b c e (qf q ss) ++ (SK d a S ++ (SK d b T ++ (PK d c h t ++ (HP d e p1 (c_X1_keep_y y S) ++ PL d q ss 2))))) px41.symm ?_
  refine g_eq (ws' := XW d (x, a, b, c, e) p1 q S T h t (c_X1_keep_y y S) ss) rfl ?_
  obtain ⟨S1_, hS1_⟩ : ∃ z, c_X1_keep_y y S = z := ⟨_, rfl⟩
  rw [hS1_]
  refine g_aload_n E 0 dX4_reset_11 rfl rfl ?_
  refine g_get E (ci := 4) inlX4 0 rfl rfl 0 (by decide) fl_X4_10 rfl (.ref (a 0)) rfl dX4_reset_12 ?_
  refine g_eq (ws' := XO d x a b c e (qf q ss) ++ (SK d a S ++ (SK d b T ++ (PK d c h t ++ (HP d e p1 S1_ ++ PL d q ss 2))))) rfl ?_
  refine g_perm (ws' := (SK d a S) ++ (XO d x a b c e (qf q ss) ++ (SK d b T ++ (PK d c h t ++ (HP d e p1 S1_ ++ PL d q ss 2))))) px1 ?_
  refine g_callViD E (wr := XO d x a b c e (qf q ss) ++ (SK d b T ++ (PK d c h t ++ (HP d e p1 S1_ ++ PL d q ss 2)))) gc_X3_toMiddle ml_X4_80 (t_X3_toMiddle d a S ) rfl rfl (ci := 3) 4 rfl rfl rfl rfl (ok_le rfl) ⟨ok_le rfl, ok_le rfl, ok_le rfl, ok_le rfl⟩ rfl rfl dX4_reset_15 ?_
  refine g_perm (ws' := XO d x a b c e (qf q ss) ++ (SK d a (c_X3_toMiddle S) ++ (SK d b T ++ (PK d c h t ++ (HP d e p1 S1_ ++ PL d q ss 2))))) px1.symm ?_
  refine g_eq (ws' := XW d (x, a, b, c, e) p1 q (c_X3_toMiddle S) T h t S1_ ss) rfl ?_
  obtain ⟨S2_, hS2_⟩ : ∃ z, c_X3_toMiddle S = z := ⟨_, rfl⟩
  rw [hS2_]
  refine g_nm (fun v3_ hv3_ => ?_)
  subst hv3_
  subst hS2_
  subst hS1_
  exact RET 18 _ (r_X3_toMiddle S) _ dX4_reset_18 rfl (by rw [r_X4_reset]) ⟨p1, (by rw [c_X4_reset_1, c_X4_reset_y])⟩
set_option maxHeartbeats 1000000 in
set_option maxRecDepth 100000 in
theorem t_X4_reset (d : gD) (x : Nat → Nat) (a : Nat → Nat) (b : Nat → Nat) (c : Nat → Nat) (e : Nat → Nat) (p : Nat → Nat → Nat) (q : Nat → Nat → Nat) (S : SS) (T : SS) (h : Nat → Int32) (t : Nat → Int32) (y : HS) (ss : Nat → Option SS) (hy : y.1 < 6 ∧ y.2.1 ≤ 6) : gMi d yX4_reset cX4_reset 1 (some .int) R_X4_reset [.ref (x 0)] (XW d (x, a, b, c, e) p q S T h t y ss) (fun r_ u_ => r_ = r_X4_reset S y ∧ (∃ p_ : Nat → Nat → Nat, u_ = XW d (x, a, b, c, e) p_ q (c_X4_reset_1 S y) T h t (c_X4_reset_y S y) ss)) :=
  g_met_i RX4 rfl (by decide +kernel) (Nat.le_of_ble_eq_true rfl) [(0, .ref (x 0))] rfl (fun X E RET => s_X4_reset_0 d x a b c e p q S T h t y ss hy E (fun pc_ lv_ v_ u_ h1_ h2_ h3_ h4_ => RET pc_ lv_ v_ u_ h1_ h2_ ⟨h3_, h4_⟩))
abbrev R_X4_of : Room := { frames := 2, cells := 0, slots := 0, locals := 45 }
def r_X4_of (axis : Int32) (what : Int32) (S : SS) : Int32 := if axis = 0 then (if axis = 0 then (r_X3_aboutX what S) else (r_X3_aboutY what S)) else (if axis = 1 then (if axis = 0 then (r_X3_aboutX what S) else (r_X3_aboutY what S)) else (-1))
set_option maxHeartbeats 1000000 in
set_option maxRecDepth 100000 in
theorem s_X4_of_0 (d : gD) (x : Nat → Nat) (a : Nat → Nat) (b : Nat → Nat) (c : Nat → Nat) (e : Nat → Nat) (axis : Int32) (what : Int32) (p : Nat → Nat → Nat) (q : Nat → Nat → Nat) (S : SS) (T : SS) (h : Nat → Int32) (t : Nat → Int32) (y : HS) (ss : Nat → Option SS)   {X : gX} (E : gE d X RX4 cX4_of 3 R_X4_of) (RET : ∀ (pc_ : Nat) (lv_ : List (Nat × Value)) (v_ : Int32) (u_ : va_W), decode cX4_of pc_ = .ok (.ireturn, 1) → narrow .int (.int v_) = .int v_ → v_ = r_X4_of axis what S → u_ = XW d (x, a, b, c, e) p q S T h t y ss → G d X u_ R_X4_of.cells R_X4_of.slots pc_ lv_ [.int v_]) : G d X (XW d (x, a, b, c, e) p q S T h t y ss) 0 0 0 [(0, .ref (x 0)), (1, .int axis), (2, .int what)] [] := by
  refine g_iload_n E 1 dX4_of_0 rfl rfl ?_
  refine g_ifeq E 11 dX4_of_1 (by decide) (fun c_1 => ?_) (fun c_1 => ?_)
  · skip
    refine g_iload_n E 1 dX4_of_11 rfl rfl ?_
    refine g_ifne E 26 dX4_of_12 (by decide) (fun c_12 => ?_) (fun c_12 => ?_)
    · skip
      refine g_aload_n E 0 dX4_of_26 rfl rfl ?_
      refine g_get E (ci := 4) inlX4 0 rfl rfl 0 (by decide) fl_X4_10 rfl (.ref (a 0)) rfl dX4_of_27 ?_
      refine g_iload_n E 2 dX4_of_30 rfl rfl ?_
      refine g_eq (ws' := XO d x a b c e (qf q ss) ++ (SK d a S ++ (SK d b T ++ (PK d c h t ++ (HP d e p y ++ PL d q ss 2))))) rfl ?_
      refine g_perm (ws' := (SK d a S) ++ (XO d x a b c e (qf q ss) ++ (SK d b T ++ (PK d c h t ++ (HP d e p y ++ PL d q ss 2))))) px1 ?_
      refine g_callViD E (wr := XO d x a b c e (qf q ss) ++ (SK d b T ++ (PK d c h t ++ (HP d e p y ++ PL d q ss 2)))) gc_X3_aboutY ml_X4_86 (t_X3_aboutY d a what S ) rfl rfl (ci := 3) 4 rfl rfl rfl rfl (ok_le rfl) ⟨ok_le rfl, ok_le rfl, ok_le rfl, ok_le rfl⟩ rfl rfl dX4_of_31 ?_
      refine g_perm (ws' := XO d x a b c e (qf q ss) ++ (SK d a S ++ (SK d b T ++ (PK d c h t ++ (HP d e p y ++ PL d q ss 2))))) px1.symm ?_
      refine g_eq (ws' := XW d (x, a, b, c, e) p q S T h t y ss) rfl ?_
      refine g_nm (fun v1_ hv1_ => ?_)
      subst hv1_
      exact RET 34 _ (r_X3_aboutY what S) _ dX4_of_34 rfl (by rw [r_X4_of, if_pos c_1, if_neg c_12]) rfl
    · skip
      refine g_aload_n E 0 dX4_of_15 rfl rfl ?_
      refine g_get E (ci := 4) inlX4 0 rfl rfl 0 (by decide) fl_X4_10 rfl (.ref (a 0)) rfl dX4_of_16 ?_
      refine g_iload_n E 2 dX4_of_19 rfl rfl ?_
      refine g_eq (ws' := XO d x a b c e (qf q ss) ++ (SK d a S ++ (SK d b T ++ (PK d c h t ++ (HP d e p y ++ PL d q ss 2))))) rfl ?_
      refine g_perm (ws' := (SK d a S) ++ (XO d x a b c e (qf q ss) ++ (SK d b T ++ (PK d c h t ++ (HP d e p y ++ PL d q ss 2))))) px1 ?_
      refine g_callViD E (wr := XO d x a b c e (qf q ss) ++ (SK d b T ++ (PK d c h t ++ (HP d e p y ++ PL d q ss 2)))) gc_X3_aboutX ml_X4_83 (t_X3_aboutX d a what S ) rfl rfl (ci := 3) 4 rfl rfl rfl rfl (ok_le rfl) ⟨ok_le rfl, ok_le rfl, ok_le rfl, ok_le rfl⟩ rfl rfl dX4_of_20 ?_
      refine g_perm (ws' := XO d x a b c e (qf q ss) ++ (SK d a S ++ (SK d b T ++ (PK d c h t ++ (HP d e p y ++ PL d q ss 2))))) px1.symm ?_
      refine g_eq (ws' := XW d (x, a, b, c, e) p q S T h t y ss) rfl ?_
      refine g_nm (fun v2_ hv2_ => ?_)
      refine g_goto E 34 dX4_of_23 (by decide) ?_
      subst hv2_
      exact RET 34 _ (r_X3_aboutX what S) _ dX4_of_34 rfl (by rw [r_X4_of, if_pos c_1, if_pos c_12]) rfl
  · skip
    refine g_iload_n E 1 dX4_of_4 rfl rfl ?_
    refine g_iconst E 1 dX4_of_5 (by decide) ?_
    refine g_icmpeq E 11 dX4_of_6 (by decide) (fun c_6 => ?_) (fun c_6 => ?_)
    · skip
      refine g_iload_n E 1 dX4_of_11 rfl rfl ?_
      refine g_ifne E 26 dX4_of_12 (by decide) (fun c_12 => ?_) (fun c_12 => ?_)
      · skip
        refine g_aload_n E 0 dX4_of_26 rfl rfl ?_
        refine g_get E (ci := 4) inlX4 0 rfl rfl 0 (by decide) fl_X4_10 rfl (.ref (a 0)) rfl dX4_of_27 ?_
        refine g_iload_n E 2 dX4_of_30 rfl rfl ?_
        refine g_eq (ws' := XO d x a b c e (qf q ss) ++ (SK d a S ++ (SK d b T ++ (PK d c h t ++ (HP d e p y ++ PL d q ss 2))))) rfl ?_
        refine g_perm (ws' := (SK d a S) ++ (XO d x a b c e (qf q ss) ++ (SK d b T ++ (PK d c h t ++ (HP d e p y ++ PL d q ss 2))))) px1 ?_
        refine g_callViD E (wr := XO d x a b c e (qf q ss) ++ (SK d b T ++ (PK d c h t ++ (HP d e p y ++ PL d q ss 2)))) gc_X3_aboutY ml_X4_86 (t_X3_aboutY d a what S ) rfl rfl (ci := 3) 4 rfl rfl rfl rfl (ok_le rfl) ⟨ok_le rfl, ok_le rfl, ok_le rfl, ok_le rfl⟩ rfl rfl dX4_of_31 ?_
        refine g_perm (ws' := XO d x a b c e (qf q ss) ++ (SK d a S ++ (SK d b T ++ (PK d c h t ++ (HP d e p y ++ PL d q ss 2))))) px1.symm ?_
        refine g_eq (ws' := XW d (x, a, b, c, e) p q S T h t y ss) rfl ?_
        refine g_nm (fun v3_ hv3_ => ?_)
        subst hv3_
        exact RET 34 _ (r_X3_aboutY what S) _ dX4_of_34 rfl (by rw [r_X4_of, if_neg c_1, if_pos c_6, if_neg c_12]) rfl
      · skip
        refine g_aload_n E 0 dX4_of_15 rfl rfl ?_
        refine g_get E (ci := 4) inlX4 0 rfl rfl 0 (by decide) fl_X4_10 rfl (.ref (a 0)) rfl dX4_of_16 ?_
        refine g_iload_n E 2 dX4_of_19 rfl rfl ?_
        refine g_eq (ws' := XO d x a b c e (qf q ss) ++ (SK d a S ++ (SK d b T ++ (PK d c h t ++ (HP d e p y ++ PL d q ss 2))))) rfl ?_
        refine g_perm (ws' := (SK d a S) ++ (XO d x a b c e (qf q ss) ++ (SK d b T ++ (PK d c h t ++ (HP d e p y ++ PL d q ss 2))))) px1 ?_
        refine g_callViD E (wr := XO d x a b c e (qf q ss) ++ (SK d b T ++ (PK d c h t ++ (HP d e p y ++ PL d q ss 2)))) gc_X3_aboutX ml_X4_83 (t_X3_aboutX d a what S ) rfl rfl (ci := 3) 4 rfl rfl rfl rfl (ok_le rfl) ⟨ok_le rfl, ok_le rfl, ok_le rfl, ok_le rfl⟩ rfl rfl dX4_of_20 ?_
        refine g_perm (ws' := XO d x a b c e (qf q ss) ++ (SK d a S ++ (SK d b T ++ (PK d c h t ++ (HP d e p y ++ PL d q ss 2))))) px1.symm ?_
        refine g_eq (ws' := XW d (x, a, b, c, e) p q S T h t y ss) rfl ?_
        refine g_nm (fun v4_ hv4_ => ?_)
        refine g_goto E 34 dX4_of_23 (by decide) ?_
        subst hv4_
        exact RET 34 _ (r_X3_aboutX what S) _ dX4_of_34 rfl (by rw [r_X4_of, if_neg c_1, if_pos c_6, if_pos c_12]) rfl
    · skip
      refine g_iconst E (-1) dX4_of_9 (by decide) ?_
      exact RET 10 _ (-1) _ dX4_of_10 rfl (by rw [r_X4_of, if_neg c_1, if_neg c_6]) rfl
set_option maxHeartbeats 1000000 in
set_option maxRecDepth 100000 in
theorem t_X4_of (d : gD) (x : Nat → Nat) (a : Nat → Nat) (b : Nat → Nat) (c : Nat → Nat) (e : Nat → Nat) (axis : Int32) (what : Int32) (p : Nat → Nat → Nat) (q : Nat → Nat → Nat) (S : SS) (T : SS) (h : Nat → Int32) (t : Nat → Int32) (y : HS) (ss : Nat → Option SS)  : gMi d yX4_of cX4_of 3 (some .int) R_X4_of [.ref (x 0), .int axis, .int what] (XW d (x, a, b, c, e) p q S T h t y ss) (fun r_ u_ => r_ = r_X4_of axis what S ∧ u_ = XW d (x, a, b, c, e) p q S T h t y ss) :=
  g_met_i RX4 rfl (by decide +kernel) (Nat.le_of_ble_eq_true rfl) [(0, .ref (x 0)), (1, .int axis), (2, .int what)] rfl (fun X E RET => s_X4_of_0 d x a b c e axis what p q S T h t y ss  E (fun pc_ lv_ v_ u_ h1_ h2_ h3_ h4_ => RET pc_ lv_ v_ u_ h1_ h2_ ⟨h3_, h4_⟩))
abbrev R_X4_direction : Room := { frames := 1, cells := 0, slots := 0, locals := 23 }
def r_X4_direction (rank : Int32) (what : Int32) (S : SS) : Int32 := (r_X0_about rank what S.2.2)
set_option maxHeartbeats 1000000 in
set_option maxRecDepth 100000 in
theorem s_X4_direction_0 (d : gD) (x : Nat → Nat) (a : Nat → Nat) (b : Nat → Nat) (c : Nat → Nat) (e : Nat → Nat) (rank : Int32) (what : Int32) (p : Nat → Nat → Nat) (q : Nat → Nat → Nat) (S : SS) (T : SS) (h : Nat → Int32) (t : Nat → Int32) (y : HS) (ss : Nat → Option SS)   {X : gX} (E : gE d X RX4 cX4_direction 3 R_X4_direction) (RET : ∀ (pc_ : Nat) (lv_ : List (Nat × Value)) (v_ : Int32) (u_ : va_W), decode cX4_direction pc_ = .ok (.ireturn, 1) → narrow .int (.int v_) = .int v_ → v_ = r_X4_direction rank what S → u_ = XW d (x, a, b, c, e) p q S T h t y ss → G d X u_ R_X4_direction.cells R_X4_direction.slots pc_ lv_ [.int v_]) : G d X (XW d (x, a, b, c, e) p q S T h t y ss) 0 0 0 [(0, .ref (x 0)), (1, .int rank), (2, .int what)] [] := by
  refine g_aload_n E 0 dX4_direction_0 rfl rfl ?_
  refine g_get E (ci := 4) inlX4 0 rfl rfl 0 (by decide) fl_X4_10 rfl (.ref (a 0)) rfl dX4_direction_1 ?_
  refine g_getN E (ci := 3) inlX3 6 rfl rfl 1 (by decide) (List.mem_of_getElem? (i := 2) rfl) rfl (.ref (a 2)) rfl dX4_direction_4 ?_
  refine g_iload_n E 1 dX4_direction_7 rfl rfl ?_
  refine g_iload_n E 2 dX4_direction_8 rfl rfl ?_
  refine g_eq (ws' := XO d x a b c e (qf q ss) ++ (SK d a S ++ (SK d b T ++ (PK d c h t ++ (HP d e p y ++ PL d q ss 2))))) rfl ?_
  refine g_perm (ws' := (DK d a S.2.2) ++ (SO d a S.1 S.2.1 ++ (XO d x a b c e (qf q ss) ++ (SK d b T ++ (PK d c h t ++ (HP d e p y ++ PL d q ss 2)))))) pxD ?_
  refine g_callViD E (wr := SO d a S.1 S.2.1 ++ (XO d x a b c e (qf q ss) ++ (SK d b T ++ (PK d c h t ++ (HP d e p y ++ PL d q ss 2))))) gc_X0_about ml_X4_93 (t_X0_about d a rank what S.2.2 ) rfl rfl (ci := 0) 0 rfl rfl rfl rfl (ok_le rfl) ⟨ok_le rfl, ok_le rfl, ok_le rfl, ok_le rfl⟩ rfl rfl dX4_direction_9 ?_
  refine g_perm (ws' := XO d x a b c e (qf q ss) ++ (SK d a S ++ (SK d b T ++ (PK d c h t ++ (HP d e p y ++ PL d q ss 2))))) pxD.symm ?_
  refine g_eq (ws' := XW d (x, a, b, c, e) p q S T h t y ss) rfl ?_
  refine g_nm (fun v1_ hv1_ => ?_)
  subst hv1_
  exact RET 12 _ (r_X0_about rank what S.2.2) _ dX4_direction_12 rfl (by rw [r_X4_direction]) rfl
set_option maxHeartbeats 1000000 in
set_option maxRecDepth 100000 in
theorem t_X4_direction (d : gD) (x : Nat → Nat) (a : Nat → Nat) (b : Nat → Nat) (c : Nat → Nat) (e : Nat → Nat) (rank : Int32) (what : Int32) (p : Nat → Nat → Nat) (q : Nat → Nat → Nat) (S : SS) (T : SS) (h : Nat → Int32) (t : Nat → Int32) (y : HS) (ss : Nat → Option SS)  : gMi d yX4_direction cX4_direction 3 (some .int) R_X4_direction [.ref (x 0), .int rank, .int what] (XW d (x, a, b, c, e) p q S T h t y ss) (fun r_ u_ => r_ = r_X4_direction rank what S ∧ u_ = XW d (x, a, b, c, e) p q S T h t y ss) :=
  g_met_i RX4 rfl (by decide +kernel) (Nat.le_of_ble_eq_true rfl) [(0, .ref (x 0)), (1, .int rank), (2, .int what)] rfl (fun X E RET => s_X4_direction_0 d x a b c e rank what p q S T h t y ss  E (fun pc_ lv_ v_ u_ h1_ h2_ h3_ h4_ => RET pc_ lv_ v_ u_ h1_ h2_ ⟨h3_, h4_⟩))
abbrev R_X4_count : Room := { frames := 1, cells := 0, slots := 0, locals := 21 }
def r_X4_count (what : Int32) (S : SS) (h : Nat → Int32) (y : HS) : Int32 := if what = 17 then (h 0) else (if what = 18 then (nI y.2.1) else (r_X3_number what S))
set_option maxHeartbeats 1000000 in
set_option maxRecDepth 100000 in
theorem s_X4_count_0 (d : gD) (x : Nat → Nat) (a : Nat → Nat) (b : Nat → Nat) (c : Nat → Nat) (e : Nat → Nat) (what : Int32) (p : Nat → Nat → Nat) (q : Nat → Nat → Nat) (S : SS) (T : SS) (h : Nat → Int32) (t : Nat → Int32) (y : HS) (ss : Nat → Option SS)   {X : gX} (E : gE d X RX4 cX4_count 2 R_X4_count) (RET : ∀ (pc_ : Nat) (lv_ : List (Nat × Value)) (v_ : Int32) (u_ : va_W), decode cX4_count pc_ = .ok (.ireturn, 1) → narrow .int (.int v_) = .int v_ → v_ = r_X4_count what S h y → u_ = XW d (x, a, b, c, e) p q S T h t y ss → G d X u_ R_X4_count.cells R_X4_count.slots pc_ lv_ [.int v_]) : G d X (XW d (x, a, b, c, e) p q S T h t y ss) 0 0 0 [(0, .ref (x 0)), (1, .int what)] [] := by
  refine g_iload_n E 1 dX4_count_0 rfl rfl ?_
  by_cases w_1_17 : what = 17
  · skip
    refine g_lookup E (off := 27) 28 dX4_count_1 (by decide) (by rw [w_1_17] <;> rfl) (by decide) ?_
    refine g_aload_n E 0 dX4_count_28 rfl rfl ?_
    refine g_get E (ci := 4) inlX4 0 rfl rfl 2 (by decide) fl_X4_22 rfl (.ref (c 0)) rfl dX4_count_29 ?_
    refine g_getN E (ci := 2) inlX2 14 rfl rfl 1 (by decide) (List.mem_of_getElem? (i := 4) rfl) rfl (.int (h 0)) rfl dX4_count_32 ?_
    exact RET 35 _ (h 0) _ dX4_count_35 rfl (by rw [r_X4_count, if_pos w_1_17]) rfl
  · skip
    by_cases w_1_18 : what = 18
    · skip
      refine g_lookup E (off := 35) 36 dX4_count_1 (by decide) (by rw [w_1_18] <;> rfl) (by decide) ?_
      refine g_aload_n E 0 dX4_count_36 rfl rfl ?_
      refine g_get E (ci := 4) inlX4 0 rfl rfl 3 (by decide) fl_X4_29 rfl (.ref (e 0)) rfl dX4_count_37 ?_
      refine g_getN E (ci := 1) inlX1 16 rfl rfl 2 (by decide) (List.mem_of_getElem? (i := 5) rfl) rfl (.int (nI y.2.1)) rfl dX4_count_40 ?_
      exact RET 43 _ (nI y.2.1) _ dX4_count_43 rfl (by rw [r_X4_count, if_neg w_1_17, if_pos w_1_18]) rfl
    · skip
      refine g_lookup E (off := 43) 44 dX4_count_1 (by decide) (by show (if (17 : Int) = Int32.toInt what then (27 : Int) else (if (18 : Int) = Int32.toInt what then (35 : Int) else (43))) = 43; rw [if_neg (Ne.symm (lv_neT (x := what) (k := 17) (a := 17) w_1_17 (by decide))), if_neg (Ne.symm (lv_neT (x := what) (k := 18) (a := 18) w_1_18 (by decide)))]) (by decide) ?_
      refine g_aload_n E 0 dX4_count_44 rfl rfl ?_
      refine g_get E (ci := 4) inlX4 0 rfl rfl 0 (by decide) fl_X4_10 rfl (.ref (a 0)) rfl dX4_count_45 ?_
      refine g_iload_n E 1 dX4_count_48 rfl rfl ?_
      refine g_eq (ws' := XO d x a b c e (qf q ss) ++ (SK d a S ++ (SK d b T ++ (PK d c h t ++ (HP d e p y ++ PL d q ss 2))))) rfl ?_
      refine g_perm (ws' := (SK d a S) ++ (XO d x a b c e (qf q ss) ++ (SK d b T ++ (PK d c h t ++ (HP d e p y ++ PL d q ss 2))))) px1 ?_
      refine g_callViD E (wr := XO d x a b c e (qf q ss) ++ (SK d b T ++ (PK d c h t ++ (HP d e p y ++ PL d q ss 2)))) gc_X3_number ml_X4_105 (t_X3_number d a what S ) rfl rfl (ci := 3) 4 rfl rfl rfl rfl (ok_le rfl) ⟨ok_le rfl, ok_le rfl, ok_le rfl, ok_le rfl⟩ rfl rfl dX4_count_49 ?_
      refine g_perm (ws' := XO d x a b c e (qf q ss) ++ (SK d a S ++ (SK d b T ++ (PK d c h t ++ (HP d e p y ++ PL d q ss 2))))) px1.symm ?_
      refine g_eq (ws' := XW d (x, a, b, c, e) p q S T h t y ss) rfl ?_
      refine g_nm (fun v1_ hv1_ => ?_)
      subst hv1_
      exact RET 52 _ (r_X3_number what S) _ dX4_count_52 rfl (by rw [r_X4_count, if_neg w_1_17, if_neg w_1_18]) rfl
set_option maxHeartbeats 1000000 in
set_option maxRecDepth 100000 in
theorem t_X4_count (d : gD) (x : Nat → Nat) (a : Nat → Nat) (b : Nat → Nat) (c : Nat → Nat) (e : Nat → Nat) (what : Int32) (p : Nat → Nat → Nat) (q : Nat → Nat → Nat) (S : SS) (T : SS) (h : Nat → Int32) (t : Nat → Int32) (y : HS) (ss : Nat → Option SS)  : gMi d yX4_count cX4_count 2 (some .int) R_X4_count [.ref (x 0), .int what] (XW d (x, a, b, c, e) p q S T h t y ss) (fun r_ u_ => r_ = r_X4_count what S h y ∧ u_ = XW d (x, a, b, c, e) p q S T h t y ss) :=
  g_met_i RX4 rfl (by decide +kernel) (Nat.le_of_ble_eq_true rfl) [(0, .ref (x 0)), (1, .int what)] rfl (fun X E RET => s_X4_count_0 d x a b c e what p q S T h t y ss  E (fun pc_ lv_ v_ u_ h1_ h2_ h3_ h4_ => RET pc_ lv_ v_ u_ h1_ h2_ ⟨h3_, h4_⟩))
abbrev R_X4_wouldTell : Room := { frames := 4, cells := 0, slots := 0, locals := 91 }
def r_X4_wouldTell (x1 : Int32) (y1 : Int32) (S : SS) : Int32 := if (r_X4_isSample x1 y1) = 0 then (-2) else (r_X3_tellingAt x1 y1 S)
set_option maxHeartbeats 1000000 in
set_option maxRecDepth 100000 in
theorem s_X4_wouldTell_0 (d : gD) (x : Nat → Nat) (a : Nat → Nat) (b : Nat → Nat) (c : Nat → Nat) (e : Nat → Nat) (x1 : Int32) (y1 : Int32) (p : Nat → Nat → Nat) (q : Nat → Nat → Nat) (S : SS) (T : SS) (h : Nat → Int32) (t : Nat → Int32) (y : HS) (ss : Nat → Option SS)   {X : gX} (E : gE d X RX4 cX4_wouldTell 3 R_X4_wouldTell) (RET : ∀ (pc_ : Nat) (lv_ : List (Nat × Value)) (v_ : Int32) (u_ : va_W), decode cX4_wouldTell pc_ = .ok (.ireturn, 1) → narrow .int (.int v_) = .int v_ → v_ = r_X4_wouldTell x1 y1 S → u_ = XW d (x, a, b, c, e) p q S T h t y ss → G d X u_ R_X4_wouldTell.cells R_X4_wouldTell.slots pc_ lv_ [.int v_]) : G d X (XW d (x, a, b, c, e) p q S T h t y ss) 0 0 0 [(0, .ref (x 0)), (1, .int x1), (2, .int y1)] [] := by
  refine g_iload_n E 1 dX4_wouldTell_0 rfl rfl ?_
  refine g_iload_n E 2 dX4_wouldTell_1 rfl rfl ?_
  refine g_callSp E gc_X4_isSample ml_X4_108 (t_X4_isSample d x1 y1 ) rfl rfl rfl (ok_le rfl) ⟨ok_le rfl, ok_le rfl, ok_le rfl, ok_le rfl⟩ rfl rfl dX4_wouldTell_2 ?_
  refine g_nm (fun v1_ hv1_ => ?_)
  refine g_ifeq E 20 dX4_wouldTell_5 (by decide) (fun c_5 => ?_) (fun c_5 => ?_)
  · skip
    refine g_bipush E (-2) dX4_wouldTell_20 (by decide) ?_
    subst hv1_
    exact RET 22 _ (-2) _ dX4_wouldTell_22 rfl (by rw [r_X4_wouldTell, if_pos c_5]) rfl
  · skip
    refine g_aload_n E 0 dX4_wouldTell_8 rfl rfl ?_
    refine g_get E (ci := 4) inlX4 0 rfl rfl 0 (by decide) fl_X4_10 rfl (.ref (a 0)) rfl dX4_wouldTell_9 ?_
    refine g_iload_n E 1 dX4_wouldTell_12 rfl rfl ?_
    refine g_iload_n E 2 dX4_wouldTell_13 rfl rfl ?_
    refine g_eq (ws' := XO d x a b c e (qf q ss) ++ (SK d a S ++ (SK d b T ++ (PK d c h t ++ (HP d e p y ++ PL d q ss 2))))) rfl ?_
    refine g_perm (ws' := (SK d a S) ++ (XO d x a b c e (qf q ss) ++ (SK d b T ++ (PK d c h t ++ (HP d e p y ++ PL d q ss 2))))) px1 ?_
    refine g_callViD E (wr := XO d x a b c e (qf q ss) ++ (SK d b T ++ (PK d c h t ++ (HP d e p y ++ PL d q ss 2)))) gc_X3_tellingAt ml_X4_112 (t_X3_tellingAt d a x1 y1 S ) rfl rfl (ci := 3) 4 rfl rfl rfl rfl (ok_le rfl) ⟨ok_le rfl, ok_le rfl, ok_le rfl, ok_le rfl⟩ rfl rfl dX4_wouldTell_14 ?_
    refine g_perm (ws' := XO d x a b c e (qf q ss) ++ (SK d a S ++ (SK d b T ++ (PK d c h t ++ (HP d e p y ++ PL d q ss 2))))) px1.symm ?_
    refine g_eq (ws' := XW d (x, a, b, c, e) p q S T h t y ss) rfl ?_
    refine g_nm (fun v2_ hv2_ => ?_)
    refine g_goto E 22 dX4_wouldTell_17 (by decide) ?_
    subst hv2_
    subst hv1_
    exact RET 22 _ (r_X3_tellingAt x1 y1 S) _ dX4_wouldTell_22 rfl (by rw [r_X4_wouldTell, if_neg c_5]) rfl
set_option maxHeartbeats 1000000 in
set_option maxRecDepth 100000 in
theorem t_X4_wouldTell (d : gD) (x : Nat → Nat) (a : Nat → Nat) (b : Nat → Nat) (c : Nat → Nat) (e : Nat → Nat) (x1 : Int32) (y1 : Int32) (p : Nat → Nat → Nat) (q : Nat → Nat → Nat) (S : SS) (T : SS) (h : Nat → Int32) (t : Nat → Int32) (y : HS) (ss : Nat → Option SS)  : gMi d yX4_wouldTell cX4_wouldTell 3 (some .int) R_X4_wouldTell [.ref (x 0), .int x1, .int y1] (XW d (x, a, b, c, e) p q S T h t y ss) (fun r_ u_ => r_ = r_X4_wouldTell x1 y1 S ∧ u_ = XW d (x, a, b, c, e) p q S T h t y ss) :=
  g_met_i RX4 rfl (by decide +kernel) (Nat.le_of_ble_eq_true rfl) [(0, .ref (x 0)), (1, .int x1), (2, .int y1)] rfl (fun X E RET => s_X4_wouldTell_0 d x a b c e x1 y1 p q S T h t y ss  E (fun pc_ lv_ v_ u_ h1_ h2_ h3_ h4_ => RET pc_ lv_ v_ u_ h1_ h2_ ⟨h3_, h4_⟩))
abbrev R_X4_learnedIn : Room := { frames := 5, cells := 0, slots := 0, locals := 116 }
def r_X4_learnedIn_at24 (x1 : Int32) (y1 : Int32) (S : SS) (T : SS) : Nat → (Nat) → (SS) → Int32
  | 0, _, _ => 0
  | n + 1, k, T1 => if 500 < (nI k) then (-6) else (if (r_X3_isOffByNothing x1 y1 T1) = 0 then (r_X4_learnedIn_at24 x1 y1 S T n (k + 1) (c_X3_take x1 y1 T1)) else (nI k))
def c_X4_learnedIn_2_at24 (x1 : Int32) (y1 : Int32) (S : SS) (T : SS) : Nat → (Nat) → (SS) → SS
  | 0, _, T1 => T1
  | n + 1, k, T1 => if 500 < (nI k) then T1 else (if (r_X3_isOffByNothing x1 y1 T1) = 0 then (c_X4_learnedIn_2_at24 x1 y1 S T n (k + 1) (c_X3_take x1 y1 T1)) else T1)
def r_X4_learnedIn (x1 : Int32) (y1 : Int32) (S : SS) (T : SS) : Int32 := if (r_X4_isSample x1 y1) = 0 then (-2) else (r_X4_learnedIn_at24 x1 y1 S T 502 0 S)
def c_X4_learnedIn_2 (x1 : Int32) (y1 : Int32) (S : SS) (T : SS) : SS := if (r_X4_isSample x1 y1) = 0 then T else (c_X4_learnedIn_2_at24 x1 y1 S T 502 0 S)
set_option maxHeartbeats 1000000 in
set_option maxRecDepth 100000 in
theorem s_X4_learnedIn_24 (d : gD) (x : Nat → Nat) (a : Nat → Nat) (b : Nat → Nat) (c : Nat → Nat) (e : Nat → Nat) (x1 : Int32) (y1 : Int32) (p : Nat → Nat → Nat) (q : Nat → Nat → Nat) (S : SS) (T : SS) (h : Nat → Int32) (t : Nat → Int32) (y : HS) (ss : Nat → Option SS) (hu : ¬ S.2.2.1 0 < 0) {X : gX} (E : gE d X RX4 cX4_learnedIn 4 R_X4_learnedIn) : ∀ (n : Nat) (k : Nat) (T1 : SS) (hk : k ≤ 501) (hu1 : ¬ T1.2.2.1 0 < 0) (hm : 501 - k < n) (RET : ∀ (pc_ : Nat) (lv_ : List (Nat × Value)) (v_ : Int32) (u_ : va_W), decode cX4_learnedIn pc_ = .ok (.ireturn, 1) → narrow .int (.int v_) = .int v_ → v_ = r_X4_learnedIn_at24 x1 y1 S T n k T1 → u_ = XW d (x, a, b, c, e) p q S (c_X4_learnedIn_2_at24 x1 y1 S T n k T1) h t y ss → G d X u_ R_X4_learnedIn.cells R_X4_learnedIn.slots pc_ lv_ [.int v_]), G d X (XW d (x, a, b, c, e) p q S T1 h t y ss) 0 0 24 [(0, .ref (x 0)), (1, .int x1), (2, .int y1), (3, .int (nI k))] [] := by
  intro n
  induction n with
  | zero => intro k T1 hk hu1 hm; omega
  | succ n ih =>
    intro k T1 hk hu1 hm RET
    refine g_iload_n E 3 dX4_learnedIn_24 rfl rfl ?_
    refine g_sipush E 500 dX4_learnedIn_25 (by decide) ?_
    refine g_icmpgt E 60 dX4_learnedIn_28 (by decide) (fun c_28 => ?_) (fun c_28 => ?_)
    · skip
      refine g_bipush E (-6) dX4_learnedIn_60 (by decide) ?_
      exact RET 62 _ (-6) _ dX4_learnedIn_62 rfl (by rw [r_X4_learnedIn_at24, if_pos c_28]) (by rw [c_X4_learnedIn_2_at24, if_pos c_28])
    · skip
      have k28 : ¬ 500 < k := fun q => c_28 ((nI_ltI (a := 500) (b := k) (by omega) (by omega)).mpr q)
      refine g_aload_n E 0 dX4_learnedIn_31 rfl rfl ?_
      refine g_get E (ci := 4) inlX4 0 rfl rfl 1 (by decide) fl_X4_16 rfl (.ref (b 0)) rfl dX4_learnedIn_32 ?_
      refine g_iload_n E 1 dX4_learnedIn_35 rfl rfl ?_
      refine g_iload_n E 2 dX4_learnedIn_36 rfl rfl ?_
      refine g_eq (ws' := XO d x a b c e (qf q ss) ++ (SK d a S ++ (SK d b T1 ++ (PK d c h t ++ (HP d e p y ++ PL d q ss 2))))) rfl ?_
      refine g_perm (ws' := (SK d b T1) ++ (XO d x a b c e (qf q ss) ++ (SK d a S ++ (PK d c h t ++ (HP d e p y ++ PL d q ss 2))))) px2 ?_
      refine g_callViD E (wr := XO d x a b c e (qf q ss) ++ (SK d a S ++ (PK d c h t ++ (HP d e p y ++ PL d q ss 2)))) gc_X3_isOffByNothing ml_X4_118 (t_X3_isOffByNothing d b x1 y1 T1 ) rfl rfl (ci := 3) 4 rfl rfl rfl rfl (ok_le rfl) ⟨ok_le rfl, ok_le rfl, ok_le rfl, ok_le rfl⟩ rfl rfl dX4_learnedIn_37 ?_
      refine g_perm (ws' := XO d x a b c e (qf q ss) ++ (SK d a S ++ (SK d b T1 ++ (PK d c h t ++ (HP d e p y ++ PL d q ss 2))))) px2.symm ?_
      refine g_eq (ws' := XW d (x, a, b, c, e) p q S T1 h t y ss) rfl ?_
      refine g_nm (fun v2_ hv2_ => ?_)
      refine g_ifeq E 45 dX4_learnedIn_40 (by decide) (fun c_40 => ?_) (fun c_40 => ?_)
      · skip
        refine g_aload_n E 0 dX4_learnedIn_45 rfl rfl ?_
        refine g_get E (ci := 4) inlX4 0 rfl rfl 1 (by decide) fl_X4_16 rfl (.ref (b 0)) rfl dX4_learnedIn_46 ?_
        refine g_iload_n E 1 dX4_learnedIn_49 rfl rfl ?_
        refine g_iload_n E 2 dX4_learnedIn_50 rfl rfl ?_
        refine g_eq (ws' := XO d x a b c e (qf q ss) ++ (SK d a S ++ (SK d b T1 ++ (PK d c h t ++ (HP d e p y ++ PL d q ss 2))))) rfl ?_
        refine g_perm (ws' := (SK d b T1) ++ (XO d x a b c e (qf q ss) ++ (SK d a S ++ (PK d c h t ++ (HP d e p y ++ PL d q ss 2))))) px2 ?_
        refine g_callVvD E (wr := XO d x a b c e (qf q ss) ++ (SK d a S ++ (PK d c h t ++ (HP d e p y ++ PL d q ss 2)))) gc_X3_take ml_X4_59 (t_X3_take d b x1 y1 T1 (by first | assumption | omega)) rfl rfl (ci := 3) 4 rfl rfl rfl rfl (ok_le rfl) ⟨ok_le rfl, ok_le rfl, ok_le rfl, ok_le rfl⟩ rfl rfl dX4_learnedIn_51 ?_
        refine g_perm (ws' := XO d x a b c e (qf q ss) ++ (SK d a S ++ (SK d b (c_X3_take x1 y1 T1) ++ (PK d c h t ++ (HP d e p y ++ PL d q ss 2))))) px2.symm ?_
        refine g_eq (ws' := XW d (x, a, b, c, e) p q S (c_X3_take x1 y1 T1) h t y ss) rfl ?_
        obtain ⟨S3_, hS3_⟩ : ∃ z, c_X3_take x1 y1 T1 = z := ⟨_, rfl⟩
        rw [hS3_]
        refine g_iinc E (j := 3) (v := (nI (k + 1))) (lv' := [(3, .int (nI (k + 1))), (0, .ref (x 0)), (1, .int x1), (2, .int y1)]) dX4_learnedIn_54 rfl (nI_1 _) (by decide) rfl ?_
        refine g_goto E 24 dX4_learnedIn_57 (by decide) ?_
        refine g_lvs (lv' := [(0, .ref (x 0)), (1, .int x1), (2, .int y1), (3, .int (nI (k + 1)))]) [1, 2, 3, 0] rfl ?_
        subst hS3_
        subst hv2_
        exact ih (k + 1) (c_X3_take x1 y1 T1) (by omega) (by subst_vars; with_reducible exact KU_take hu1) (by omega) (fun pc_ lv_ v_ u_ h1_ h2_ h3_ h4_ => RET pc_ lv_ v_ u_ h1_ h2_ (h3_.trans (by rw [r_X4_learnedIn_at24, if_neg c_28, if_pos c_40])) (h4_.trans (by rw [c_X4_learnedIn_2_at24, if_neg c_28, if_pos c_40])))
      · skip
        refine g_iload_n E 3 dX4_learnedIn_43 rfl rfl ?_
        subst hv2_
        exact RET 44 _ (nI k) _ dX4_learnedIn_44 rfl (by rw [r_X4_learnedIn_at24, if_neg c_28, if_neg c_40]) (by rw [c_X4_learnedIn_2_at24, if_neg c_28, if_neg c_40])
set_option maxHeartbeats 1000000 in
set_option maxRecDepth 100000 in
theorem s_X4_learnedIn_0 (d : gD) (x : Nat → Nat) (a : Nat → Nat) (b : Nat → Nat) (c : Nat → Nat) (e : Nat → Nat) (x1 : Int32) (y1 : Int32) (p : Nat → Nat → Nat) (q : Nat → Nat → Nat) (S : SS) (T : SS) (h : Nat → Int32) (t : Nat → Int32) (y : HS) (ss : Nat → Option SS) (hu : ¬ S.2.2.1 0 < 0)  {X : gX} (E : gE d X RX4 cX4_learnedIn 4 R_X4_learnedIn) (RET : ∀ (pc_ : Nat) (lv_ : List (Nat × Value)) (v_ : Int32) (u_ : va_W), decode cX4_learnedIn pc_ = .ok (.ireturn, 1) → narrow .int (.int v_) = .int v_ → v_ = r_X4_learnedIn x1 y1 S T → u_ = XW d (x, a, b, c, e) p q S (c_X4_learnedIn_2 x1 y1 S T) h t y ss → G d X u_ R_X4_learnedIn.cells R_X4_learnedIn.slots pc_ lv_ [.int v_]) : G d X (XW d (x, a, b, c, e) p q S T h t y ss) 0 0 0 [(0, .ref (x 0)), (1, .int x1), (2, .int y1)] [] := by
  refine g_iload_n E 1 dX4_learnedIn_0 rfl rfl ?_
  refine g_iload_n E 2 dX4_learnedIn_1 rfl rfl ?_
  refine g_callSp E gc_X4_isSample ml_X4_108 (t_X4_isSample d x1 y1 ) rfl rfl rfl (ok_le rfl) ⟨ok_le rfl, ok_le rfl, ok_le rfl, ok_le rfl⟩ rfl rfl dX4_learnedIn_2 ?_
  refine g_nm (fun v1_ hv1_ => ?_)
  refine g_ifne E 11 dX4_learnedIn_5 (by decide) (fun c_5 => ?_) (fun c_5 => ?_)
  · skip
    refine g_aload_n E 0 dX4_learnedIn_11 rfl rfl ?_
    refine g_get E (ci := 4) inlX4 0 rfl rfl 1 (by decide) fl_X4_16 rfl (.ref (b 0)) rfl dX4_learnedIn_12 ?_
    refine g_aload_n E 0 dX4_learnedIn_15 rfl rfl ?_
    refine g_get E (ci := 4) inlX4 0 rfl rfl 0 (by decide) fl_X4_10 rfl (.ref (a 0)) rfl dX4_learnedIn_16 ?_
    refine g_eq (ws' := XO d x a b c e (qf q ss) ++ (SK d a S ++ (SK d b T ++ (PK d c h t ++ (HP d e p y ++ PL d q ss 2))))) rfl ?_
    refine g_perm (ws' := (SK d b T ++ SK d a S) ++ (XO d x a b c e (qf q ss) ++ (PK d c h t ++ (HP d e p y ++ PL d q ss 2)))) px21 ?_
    refine g_callVvD E (wr := XO d x a b c e (qf q ss) ++ (PK d c h t ++ (HP d e p y ++ PL d q ss 2))) gc_X3_becomeLike ml_X4_115 (t2_X3_becomeLike d b a T S ) rfl rfl (ci := 3) 4 rfl rfl rfl rfl (ok_le rfl) ⟨ok_le rfl, ok_le rfl, ok_le rfl, ok_le rfl⟩ rfl rfl dX4_learnedIn_19 ?_
    refine g_perm (ws' := XO d x a b c e (qf q ss) ++ (SK d a S ++ (SK d b S ++ (PK d c h t ++ (HP d e p y ++ PL d q ss 2))))) px21.symm ?_
    refine g_eq (ws' := XW d (x, a, b, c, e) p q S S h t y ss) rfl ?_
    refine g_iconst E 0 dX4_learnedIn_22 (by decide) ?_
    refine g_istore_n E (lv' := [(3, .int 0), (0, .ref (x 0)), (1, .int x1), (2, .int y1)]) dX4_learnedIn_23 rfl (by decide) rfl ?_
    refine g_lvs (lv' := [(0, .ref (x 0)), (1, .int x1), (2, .int y1), (3, .int 0)]) [1, 2, 3, 0] rfl ?_
    subst hv1_
    exact s_X4_learnedIn_24 d x a b c e x1 y1 p q S T h t y ss hu E 502 0 S (by omega) hu (by omega) (fun pc_ lv_ v_ u_ h1_ h2_ h3_ h4_ => RET pc_ lv_ v_ u_ h1_ h2_ (h3_.trans (by rw [r_X4_learnedIn, if_neg c_5])) (h4_.trans (by rw [c_X4_learnedIn_2, if_neg c_5])))
  · skip
    refine g_bipush E (-2) dX4_learnedIn_8 (by decide) ?_
    subst hv1_
    exact RET 10 _ (-2) _ dX4_learnedIn_10 rfl (by rw [r_X4_learnedIn, if_pos c_5]) (by rw [c_X4_learnedIn_2, if_pos c_5])
set_option maxHeartbeats 1000000 in
set_option maxRecDepth 100000 in
theorem t_X4_learnedIn (d : gD) (x : Nat → Nat) (a : Nat → Nat) (b : Nat → Nat) (c : Nat → Nat) (e : Nat → Nat) (x1 : Int32) (y1 : Int32) (p : Nat → Nat → Nat) (q : Nat → Nat → Nat) (S : SS) (T : SS) (h : Nat → Int32) (t : Nat → Int32) (y : HS) (ss : Nat → Option SS) (hu : ¬ S.2.2.1 0 < 0) : gMi d yX4_learnedIn cX4_learnedIn 4 (some .int) R_X4_learnedIn [.ref (x 0), .int x1, .int y1] (XW d (x, a, b, c, e) p q S T h t y ss) (fun r_ u_ => r_ = r_X4_learnedIn x1 y1 S T ∧ u_ = XW d (x, a, b, c, e) p q S (c_X4_learnedIn_2 x1 y1 S T) h t y ss) :=
  g_met_i RX4 rfl (by decide +kernel) (Nat.le_of_ble_eq_true rfl) [(0, .ref (x 0)), (1, .int x1), (2, .int y1)] rfl (fun X E RET => s_X4_learnedIn_0 d x a b c e x1 y1 p q S T h t y ss hu E (fun pc_ lv_ v_ u_ h1_ h2_ h3_ h4_ => RET pc_ lv_ v_ u_ h1_ h2_ ⟨h3_, h4_⟩))
abbrev R_X4_driftsIn : Room := { frames := 5, cells := 0, slots := 0, locals := 116 }
def r_X4_driftsIn_at24 (x1 : Int32) (y1 : Int32) (S : SS) (T : SS) : Nat → (Nat) → (SS) → Int32
  | 0, _, _ => 0
  | n + 1, k, T1 => if 200 < (nI k) then (-6) else (if (r_X3_wouldDrift x1 y1 T1) = 0 then (r_X4_driftsIn_at24 x1 y1 S T n (k + 1) (c_X3_take x1 y1 T1)) else (nI k))
def c_X4_driftsIn_2_at24 (x1 : Int32) (y1 : Int32) (S : SS) (T : SS) : Nat → (Nat) → (SS) → SS
  | 0, _, T1 => T1
  | n + 1, k, T1 => if 200 < (nI k) then T1 else (if (r_X3_wouldDrift x1 y1 T1) = 0 then (c_X4_driftsIn_2_at24 x1 y1 S T n (k + 1) (c_X3_take x1 y1 T1)) else T1)
def r_X4_driftsIn (x1 : Int32) (y1 : Int32) (S : SS) (T : SS) : Int32 := if (r_X4_isSample x1 y1) = 0 then (-2) else (r_X4_driftsIn_at24 x1 y1 S T 202 1 S)
def c_X4_driftsIn_2 (x1 : Int32) (y1 : Int32) (S : SS) (T : SS) : SS := if (r_X4_isSample x1 y1) = 0 then T else (c_X4_driftsIn_2_at24 x1 y1 S T 202 1 S)
set_option maxHeartbeats 1000000 in
set_option maxRecDepth 100000 in
theorem s_X4_driftsIn_24 (d : gD) (x : Nat → Nat) (a : Nat → Nat) (b : Nat → Nat) (c : Nat → Nat) (e : Nat → Nat) (x1 : Int32) (y1 : Int32) (p : Nat → Nat → Nat) (q : Nat → Nat → Nat) (S : SS) (T : SS) (h : Nat → Int32) (t : Nat → Int32) (y : HS) (ss : Nat → Option SS) (hu : ¬ S.2.2.1 0 < 0) {X : gX} (E : gE d X RX4 cX4_driftsIn 4 R_X4_driftsIn) : ∀ (n : Nat) (k : Nat) (T1 : SS) (hk : k ≤ 201) (hu1 : ¬ T1.2.2.1 0 < 0) (hm : 201 - k < n) (RET : ∀ (pc_ : Nat) (lv_ : List (Nat × Value)) (v_ : Int32) (u_ : va_W), decode cX4_driftsIn pc_ = .ok (.ireturn, 1) → narrow .int (.int v_) = .int v_ → v_ = r_X4_driftsIn_at24 x1 y1 S T n k T1 → u_ = XW d (x, a, b, c, e) p q S (c_X4_driftsIn_2_at24 x1 y1 S T n k T1) h t y ss → G d X u_ R_X4_driftsIn.cells R_X4_driftsIn.slots pc_ lv_ [.int v_]), G d X (XW d (x, a, b, c, e) p q S T1 h t y ss) 0 0 24 [(0, .ref (x 0)), (1, .int x1), (2, .int y1), (3, .int (nI k))] [] := by
  intro n
  induction n with
  | zero => intro k T1 hk hu1 hm; omega
  | succ n ih =>
    intro k T1 hk hu1 hm RET
    refine g_iload_n E 3 dX4_driftsIn_24 rfl rfl ?_
    refine g_sipush E 200 dX4_driftsIn_25 (by decide) ?_
    refine g_icmpgt E 60 dX4_driftsIn_28 (by decide) (fun c_28 => ?_) (fun c_28 => ?_)
    · skip
      refine g_bipush E (-6) dX4_driftsIn_60 (by decide) ?_
      exact RET 62 _ (-6) _ dX4_driftsIn_62 rfl (by rw [r_X4_driftsIn_at24, if_pos c_28]) (by rw [c_X4_driftsIn_2_at24, if_pos c_28])
    · skip
      have k28 : ¬ 200 < k := fun q => c_28 ((nI_ltI (a := 200) (b := k) (by omega) (by omega)).mpr q)
      refine g_aload_n E 0 dX4_driftsIn_31 rfl rfl ?_
      refine g_get E (ci := 4) inlX4 0 rfl rfl 1 (by decide) fl_X4_16 rfl (.ref (b 0)) rfl dX4_driftsIn_32 ?_
      refine g_iload_n E 1 dX4_driftsIn_35 rfl rfl ?_
      refine g_iload_n E 2 dX4_driftsIn_36 rfl rfl ?_
      refine g_eq (ws' := XO d x a b c e (qf q ss) ++ (SK d a S ++ (SK d b T1 ++ (PK d c h t ++ (HP d e p y ++ PL d q ss 2))))) rfl ?_
      refine g_perm (ws' := (SK d b T1) ++ (XO d x a b c e (qf q ss) ++ (SK d a S ++ (PK d c h t ++ (HP d e p y ++ PL d q ss 2))))) px2 ?_
      refine g_callViD E (wr := XO d x a b c e (qf q ss) ++ (SK d a S ++ (PK d c h t ++ (HP d e p y ++ PL d q ss 2)))) gc_X3_wouldDrift ml_X4_130 (t_X3_wouldDrift d b x1 y1 T1 ) rfl rfl (ci := 3) 4 rfl rfl rfl rfl (ok_le rfl) ⟨ok_le rfl, ok_le rfl, ok_le rfl, ok_le rfl⟩ rfl rfl dX4_driftsIn_37 ?_
      refine g_perm (ws' := XO d x a b c e (qf q ss) ++ (SK d a S ++ (SK d b T1 ++ (PK d c h t ++ (HP d e p y ++ PL d q ss 2))))) px2.symm ?_
      refine g_eq (ws' := XW d (x, a, b, c, e) p q S T1 h t y ss) rfl ?_
      refine g_nm (fun v2_ hv2_ => ?_)
      refine g_ifeq E 45 dX4_driftsIn_40 (by decide) (fun c_40 => ?_) (fun c_40 => ?_)
      · skip
        refine g_aload_n E 0 dX4_driftsIn_45 rfl rfl ?_
        refine g_get E (ci := 4) inlX4 0 rfl rfl 1 (by decide) fl_X4_16 rfl (.ref (b 0)) rfl dX4_driftsIn_46 ?_
        refine g_iload_n E 1 dX4_driftsIn_49 rfl rfl ?_
        refine g_iload_n E 2 dX4_driftsIn_50 rfl rfl ?_
        refine g_eq (ws' := XO d x a b c e (qf q ss) ++ (SK d a S ++ (SK d b T1 ++ (PK d c h t ++ (HP d e p y ++ PL d q ss 2))))) rfl ?_
        refine g_perm (ws' := (SK d b T1) ++ (XO d x a b c e (qf q ss) ++ (SK d a S ++ (PK d c h t ++ (HP d e p y ++ PL d q ss 2))))) px2 ?_
        refine g_callVvD E (wr := XO d x a b c e (qf q ss) ++ (SK d a S ++ (PK d c h t ++ (HP d e p y ++ PL d q ss 2)))) gc_X3_take ml_X4_59 (t_X3_take d b x1 y1 T1 (by first | assumption | omega)) rfl rfl (ci := 3) 4 rfl rfl rfl rfl (ok_le rfl) ⟨ok_le rfl, ok_le rfl, ok_le rfl, ok_le rfl⟩ rfl rfl dX4_driftsIn_51 ?_
        refine g_perm (ws' := XO d x a b c e (qf q ss) ++ (SK d a S ++ (SK d b (c_X3_take x1 y1 T1) ++ (PK d c h t ++ (HP d e p y ++ PL d q ss 2))))) px2.symm ?_
        refine g_eq (ws' := XW d (x, a, b, c, e) p q S (c_X3_take x1 y1 T1) h t y ss) rfl ?_
        obtain ⟨S3_, hS3_⟩ : ∃ z, c_X3_take x1 y1 T1 = z := ⟨_, rfl⟩
        rw [hS3_]
        refine g_iinc E (j := 3) (v := (nI (k + 1))) (lv' := [(3, .int (nI (k + 1))), (0, .ref (x 0)), (1, .int x1), (2, .int y1)]) dX4_driftsIn_54 rfl (nI_1 _) (by decide) rfl ?_
        refine g_goto E 24 dX4_driftsIn_57 (by decide) ?_
        refine g_lvs (lv' := [(0, .ref (x 0)), (1, .int x1), (2, .int y1), (3, .int (nI (k + 1)))]) [1, 2, 3, 0] rfl ?_
        subst hS3_
        subst hv2_
        exact ih (k + 1) (c_X3_take x1 y1 T1) (by omega) (by subst_vars; with_reducible exact KU_take hu1) (by omega) (fun pc_ lv_ v_ u_ h1_ h2_ h3_ h4_ => RET pc_ lv_ v_ u_ h1_ h2_ (h3_.trans (by rw [r_X4_driftsIn_at24, if_neg c_28, if_pos c_40])) (h4_.trans (by rw [c_X4_driftsIn_2_at24, if_neg c_28, if_pos c_40])))
      · skip
        refine g_iload_n E 3 dX4_driftsIn_43 rfl rfl ?_
        subst hv2_
        exact RET 44 _ (nI k) _ dX4_driftsIn_44 rfl (by rw [r_X4_driftsIn_at24, if_neg c_28, if_neg c_40]) (by rw [c_X4_driftsIn_2_at24, if_neg c_28, if_neg c_40])
set_option maxHeartbeats 1000000 in
set_option maxRecDepth 100000 in
theorem s_X4_driftsIn_0 (d : gD) (x : Nat → Nat) (a : Nat → Nat) (b : Nat → Nat) (c : Nat → Nat) (e : Nat → Nat) (x1 : Int32) (y1 : Int32) (p : Nat → Nat → Nat) (q : Nat → Nat → Nat) (S : SS) (T : SS) (h : Nat → Int32) (t : Nat → Int32) (y : HS) (ss : Nat → Option SS) (hu : ¬ S.2.2.1 0 < 0)  {X : gX} (E : gE d X RX4 cX4_driftsIn 4 R_X4_driftsIn) (RET : ∀ (pc_ : Nat) (lv_ : List (Nat × Value)) (v_ : Int32) (u_ : va_W), decode cX4_driftsIn pc_ = .ok (.ireturn, 1) → narrow .int (.int v_) = .int v_ → v_ = r_X4_driftsIn x1 y1 S T → u_ = XW d (x, a, b, c, e) p q S (c_X4_driftsIn_2 x1 y1 S T) h t y ss → G d X u_ R_X4_driftsIn.cells R_X4_driftsIn.slots pc_ lv_ [.int v_]) : G d X (XW d (x, a, b, c, e) p q S T h t y ss) 0 0 0 [(0, .ref (x 0)), (1, .int x1), (2, .int y1)] [] := by
  refine g_iload_n E 1 dX4_driftsIn_0 rfl rfl ?_
  refine g_iload_n E 2 dX4_driftsIn_1 rfl rfl ?_
  refine g_callSp E gc_X4_isSample ml_X4_108 (t_X4_isSample d x1 y1 ) rfl rfl rfl (ok_le rfl) ⟨ok_le rfl, ok_le rfl, ok_le rfl, ok_le rfl⟩ rfl rfl dX4_driftsIn_2 ?_
  refine g_nm (fun v1_ hv1_ => ?_)
  refine g_ifne E 11 dX4_driftsIn_5 (by decide) (fun c_5 => ?_) (fun c_5 => ?_)
  · skip
    refine g_aload_n E 0 dX4_driftsIn_11 rfl rfl ?_
    refine g_get E (ci := 4) inlX4 0 rfl rfl 1 (by decide) fl_X4_16 rfl (.ref (b 0)) rfl dX4_driftsIn_12 ?_
    refine g_aload_n E 0 dX4_driftsIn_15 rfl rfl ?_
    refine g_get E (ci := 4) inlX4 0 rfl rfl 0 (by decide) fl_X4_10 rfl (.ref (a 0)) rfl dX4_driftsIn_16 ?_
    refine g_eq (ws' := XO d x a b c e (qf q ss) ++ (SK d a S ++ (SK d b T ++ (PK d c h t ++ (HP d e p y ++ PL d q ss 2))))) rfl ?_
    refine g_perm (ws' := (SK d b T ++ SK d a S) ++ (XO d x a b c e (qf q ss) ++ (PK d c h t ++ (HP d e p y ++ PL d q ss 2)))) px21 ?_
    refine g_callVvD E (wr := XO d x a b c e (qf q ss) ++ (PK d c h t ++ (HP d e p y ++ PL d q ss 2))) gc_X3_becomeLike ml_X4_115 (t2_X3_becomeLike d b a T S ) rfl rfl (ci := 3) 4 rfl rfl rfl rfl (ok_le rfl) ⟨ok_le rfl, ok_le rfl, ok_le rfl, ok_le rfl⟩ rfl rfl dX4_driftsIn_19 ?_
    refine g_perm (ws' := XO d x a b c e (qf q ss) ++ (SK d a S ++ (SK d b S ++ (PK d c h t ++ (HP d e p y ++ PL d q ss 2))))) px21.symm ?_
    refine g_eq (ws' := XW d (x, a, b, c, e) p q S S h t y ss) rfl ?_
    refine g_iconst E 1 dX4_driftsIn_22 (by decide) ?_
    refine g_istore_n E (lv' := [(3, .int 1), (0, .ref (x 0)), (1, .int x1), (2, .int y1)]) dX4_driftsIn_23 rfl (by decide) rfl ?_
    refine g_lvs (lv' := [(0, .ref (x 0)), (1, .int x1), (2, .int y1), (3, .int 1)]) [1, 2, 3, 0] rfl ?_
    subst hv1_
    exact s_X4_driftsIn_24 d x a b c e x1 y1 p q S T h t y ss hu E 202 1 S (by omega) hu (by omega) (fun pc_ lv_ v_ u_ h1_ h2_ h3_ h4_ => RET pc_ lv_ v_ u_ h1_ h2_ (h3_.trans (by rw [r_X4_driftsIn, if_neg c_5])) (h4_.trans (by rw [c_X4_driftsIn_2, if_neg c_5])))
  · skip
    refine g_bipush E (-2) dX4_driftsIn_8 (by decide) ?_
    subst hv1_
    exact RET 10 _ (-2) _ dX4_driftsIn_10 rfl (by rw [r_X4_driftsIn, if_pos c_5]) (by rw [c_X4_driftsIn_2, if_pos c_5])
set_option maxHeartbeats 1000000 in
set_option maxRecDepth 100000 in
theorem t_X4_driftsIn (d : gD) (x : Nat → Nat) (a : Nat → Nat) (b : Nat → Nat) (c : Nat → Nat) (e : Nat → Nat) (x1 : Int32) (y1 : Int32) (p : Nat → Nat → Nat) (q : Nat → Nat → Nat) (S : SS) (T : SS) (h : Nat → Int32) (t : Nat → Int32) (y : HS) (ss : Nat → Option SS) (hu : ¬ S.2.2.1 0 < 0) : gMi d yX4_driftsIn cX4_driftsIn 4 (some .int) R_X4_driftsIn [.ref (x 0), .int x1, .int y1] (XW d (x, a, b, c, e) p q S T h t y ss) (fun r_ u_ => r_ = r_X4_driftsIn x1 y1 S T ∧ u_ = XW d (x, a, b, c, e) p q S (c_X4_driftsIn_2 x1 y1 S T) h t y ss) :=
  g_met_i RX4 rfl (by decide +kernel) (Nat.le_of_ble_eq_true rfl) [(0, .ref (x 0)), (1, .int x1), (2, .int y1)] rfl (fun X E RET => s_X4_driftsIn_0 d x a b c e x1 y1 p q S T h t y ss hu E (fun pc_ lv_ v_ u_ h1_ h2_ h3_ h4_ => RET pc_ lv_ v_ u_ h1_ h2_ ⟨h3_, h4_⟩))
abbrev R_X4_edge : Room := { frames := 4, cells := 0, slots := 0, locals := 91 }
def r_X4_edge_at37 (axis : Int32) (up : Int32) (S : SS) : Nat → (Nat) → (Int32) → Int32
  | 0, _, _ => 0
  | n + 1, k, step => if 255 < (nI k) then (-6) else (if axis = 0 then (if axis = 1 then (if (r_X4_isSample ((r_X3_restPlaceX S) + (step * (nI k))) ((r_X3_restPlaceY S) + (step * (nI k)))) = 0 then (r_X4_edge_at37 axis up S n (k + 1) step) else (if (r_X3_tellingAt ((r_X3_restPlaceX S) + (step * (nI k))) ((r_X3_restPlaceY S) + (step * (nI k))) S) = (r_X4_packed 0 0) then (r_X4_edge_at37 axis up S n (k + 1) step) else (nI k))) else (if (r_X4_isSample ((r_X3_restPlaceX S) + (step * (nI k))) ((r_X3_restPlaceY S) + 0)) = 0 then (r_X4_edge_at37 axis up S n (k + 1) step) else (if (r_X3_tellingAt ((r_X3_restPlaceX S) + (step * (nI k))) ((r_X3_restPlaceY S) + 0) S) = (r_X4_packed 0 0) then (r_X4_edge_at37 axis up S n (k + 1) step) else (nI k)))) else (if axis = 1 then (if (r_X4_isSample ((r_X3_restPlaceX S) + 0) ((r_X3_restPlaceY S) + (step * (nI k)))) = 0 then (r_X4_edge_at37 axis up S n (k + 1) step) else (if (r_X3_tellingAt ((r_X3_restPlaceX S) + 0) ((r_X3_restPlaceY S) + (step * (nI k))) S) = (r_X4_packed 0 0) then (r_X4_edge_at37 axis up S n (k + 1) step) else (nI k))) else (if (r_X4_isSample ((r_X3_restPlaceX S) + 0) ((r_X3_restPlaceY S) + 0)) = 0 then (r_X4_edge_at37 axis up S n (k + 1) step) else (if (r_X3_tellingAt ((r_X3_restPlaceX S) + 0) ((r_X3_restPlaceY S) + 0) S) = (r_X4_packed 0 0) then (r_X4_edge_at37 axis up S n (k + 1) step) else (nI k)))))
def r_X4_edge (axis : Int32) (up : Int32) (S : SS) : Int32 := if axis = 0 then (if up = 0 then (if up = 1 then (r_X4_edge_at37 axis up S 257 1 1) else (r_X4_edge_at37 axis up S 257 1 (-1))) else (if up = 1 then (if up = 1 then (r_X4_edge_at37 axis up S 257 1 1) else (r_X4_edge_at37 axis up S 257 1 (-1))) else (-2))) else (if axis = 1 then (if up = 0 then (if up = 1 then (r_X4_edge_at37 axis up S 257 1 1) else (r_X4_edge_at37 axis up S 257 1 (-1))) else (if up = 1 then (if up = 1 then (r_X4_edge_at37 axis up S 257 1 1) else (r_X4_edge_at37 axis up S 257 1 (-1))) else (-2))) else (-1))
set_option maxHeartbeats 1000000 in
set_option maxRecDepth 100000 in
theorem s_X4_edge_37 (d : gD) (x : Nat → Nat) (a : Nat → Nat) (b : Nat → Nat) (c : Nat → Nat) (e : Nat → Nat) (axis : Int32) (up : Int32) (p : Nat → Nat → Nat) (q : Nat → Nat → Nat) (S : SS) (T : SS) (h : Nat → Int32) (t : Nat → Int32) (y : HS) (ss : Nat → Option SS)  {X : gX} (E : gE d X RX4 cX4_edge 7 R_X4_edge) : ∀ (n : Nat) (k : Nat) (step : Int32) (hk : k ≤ 256) (hm : 256 - k < n) (RET : ∀ (pc_ : Nat) (lv_ : List (Nat × Value)) (v_ : Int32) (u_ : va_W), decode cX4_edge pc_ = .ok (.ireturn, 1) → narrow .int (.int v_) = .int v_ → v_ = r_X4_edge_at37 axis up S n k step → u_ = XW d (x, a, b, c, e) p q S T h t y ss → G d X u_ R_X4_edge.cells R_X4_edge.slots pc_ lv_ [.int v_]), G d X (XW d (x, a, b, c, e) p q S T h t y ss) 0 0 37 [(0, .ref (x 0)), (1, .int axis), (2, .int up), (3, .int step), (4, .int (nI k))] [] := by
  intro n
  induction n with
  | zero => intro k step hk hm; omega
  | succ n ih =>
    intro k step hk hm RET
    refine g_iload E 4 dX4_edge_37 rfl ?_
    refine g_sipush E 255 dX4_edge_39 (by decide) ?_
    refine g_icmpgt E 128 dX4_edge_42 (by decide) (fun c_42 => ?_) (fun c_42 => ?_)
    · skip
      refine g_bipush E (-6) dX4_edge_128 (by decide) ?_
      exact RET 130 _ (-6) _ dX4_edge_130 rfl (by rw [r_X4_edge_at37, if_pos c_42]) rfl
    · skip
      have k42 : ¬ 255 < k := fun q => c_42 ((nI_ltI (a := 255) (b := k) (by omega) (by omega)).mpr q)
      refine g_aload_n E 0 dX4_edge_45 rfl rfl ?_
      refine g_get E (ci := 4) inlX4 0 rfl rfl 0 (by decide) fl_X4_10 rfl (.ref (a 0)) rfl dX4_edge_46 ?_
      refine g_eq (ws' := XO d x a b c e (qf q ss) ++ (SK d a S ++ (SK d b T ++ (PK d c h t ++ (HP d e p y ++ PL d q ss 2))))) rfl ?_
      refine g_perm (ws' := (SK d a S) ++ (XO d x a b c e (qf q ss) ++ (SK d b T ++ (PK d c h t ++ (HP d e p y ++ PL d q ss 2))))) px1 ?_
      refine g_callViD E (wr := XO d x a b c e (qf q ss) ++ (SK d b T ++ (PK d c h t ++ (HP d e p y ++ PL d q ss 2)))) gc_X3_restPlaceX ml_X4_121 (t_X3_restPlaceX d a S ) rfl rfl (ci := 3) 4 rfl rfl rfl rfl (ok_le rfl) ⟨ok_le rfl, ok_le rfl, ok_le rfl, ok_le rfl⟩ rfl rfl dX4_edge_49 ?_
      refine g_perm (ws' := XO d x a b c e (qf q ss) ++ (SK d a S ++ (SK d b T ++ (PK d c h t ++ (HP d e p y ++ PL d q ss 2))))) px1.symm ?_
      refine g_eq (ws' := XW d (x, a, b, c, e) p q S T h t y ss) rfl ?_
      refine g_nm (fun v1_ hv1_ => ?_)
      refine g_iload_n E 1 dX4_edge_52 rfl rfl ?_
      refine g_ifne E 63 dX4_edge_53 (by decide) (fun c_53 => ?_) (fun c_53 => ?_)
      · skip
        refine g_iconst E 0 dX4_edge_63 (by decide) ?_
        refine g_iadd E dX4_edge_64 ?_
        refine g_istore E (lv' := [(5, .int (v1_ + 0)), (0, .ref (x 0)), (1, .int axis), (2, .int up), (3, .int step), (4, .int (nI k))]) dX4_edge_65 (by decide) rfl ?_
        refine g_aload_n E 1 dX4_edge_67 rfl rfl ?_
        refine g_get E (ci := 4) inlX4 0 rfl rfl 0 (by decide) fl_X4_10 rfl (.ref (a 0)) rfl dX4_edge_68 ?_
        refine g_eq (ws' := XO d x a b c e (qf q ss) ++ (SK d a S ++ (SK d b T ++ (PK d c h t ++ (HP d e p y ++ PL d q ss 2))))) rfl ?_
        refine g_perm (ws' := (SK d a S) ++ (XO d x a b c e (qf q ss) ++ (SK d b T ++ (PK d c h t ++ (HP d e p y ++ PL d q ss 2))))) px1 ?_
        refine g_callViD E (wr := XO d x a b c e (qf q ss) ++ (SK d b T ++ (PK d c h t ++ (HP d e p y ++ PL d q ss 2)))) gc_X3_restPlaceY ml_X4_124 (t_X3_restPlaceY d a S ) rfl rfl (ci := 3) 4 rfl rfl rfl rfl (ok_le rfl) ⟨ok_le rfl, ok_le rfl, ok_le rfl, ok_le rfl⟩ rfl rfl dX4_edge_71 ?_
        refine g_perm (ws' := XO d x a b c e (qf q ss) ++ (SK d a S ++ (SK d b T ++ (PK d c h t ++ (HP d e p y ++ PL d q ss 2))))) px1.symm ?_
        refine g_eq (ws' := XW d (x, a, b, c, e) p q S T h t y ss) rfl ?_
        refine g_nm (fun v2_ hv2_ => ?_)
        refine g_iload_n E 2 dX4_edge_74 rfl rfl ?_
        refine g_iconst E 1 dX4_edge_75 (by decide) ?_
        refine g_icmpne E 86 dX4_edge_76 (by decide) (fun c_76 => ?_) (fun c_76 => ?_)
        · skip
          refine g_iconst E 0 dX4_edge_86 (by decide) ?_
          refine g_iadd E dX4_edge_87 ?_
          refine g_istore E (lv' := [(6, .int (v2_ + 0)), (5, .int (v1_ + 0)), (0, .ref (x 0)), (1, .int axis), (2, .int up), (3, .int step), (4, .int (nI k))]) dX4_edge_88 (by decide) rfl ?_
          refine g_iload E 1 dX4_edge_90 rfl ?_
          refine g_iload E 0 dX4_edge_92 rfl ?_
          refine g_callSp E gc_X4_isSample ml_X4_108 (t_X4_isSample d (v1_ + 0) (v2_ + 0) ) rfl rfl rfl (ok_le rfl) ⟨ok_le rfl, ok_le rfl, ok_le rfl, ok_le rfl⟩ rfl rfl dX4_edge_94 ?_
          refine g_nm (fun v3_ hv3_ => ?_)
          refine g_ifeq E 122 dX4_edge_97 (by decide) (fun c_97 => ?_) (fun c_97 => ?_)
          · skip
            refine g_iinc E (j := 6) (v := (nI (k + 1))) (lv' := [(4, .int (nI (k + 1))), (6, .int (v2_ + 0)), (5, .int (v1_ + 0)), (0, .ref (x 0)), (1, .int axis), (2, .int up), (3, .int step)]) dX4_edge_122 rfl (nI_1 _) (by decide) rfl ?_
            refine g_goto E 37 dX4_edge_125 (by decide) ?_
            refine g_lvs (lv' := [(0, .ref (x 0)), (1, .int axis), (2, .int up), (3, .int step), (4, .int (nI (k + 1)))]) [3, 4, 5, 6, 0] rfl ?_
            subst hv3_
            subst hv2_
            subst hv1_
            exact ih (k + 1) step (by omega) (by omega) (fun pc_ lv_ v_ u_ h1_ h2_ h3_ h4_ => RET pc_ lv_ v_ u_ h1_ h2_ (h3_.trans (by rw [r_X4_edge_at37, if_neg c_42, if_neg c_53, if_neg c_76, if_pos c_97])) h4_)
          · skip
            refine g_aload_n E 2 dX4_edge_100 rfl rfl ?_
            refine g_get E (ci := 4) inlX4 0 rfl rfl 0 (by decide) fl_X4_10 rfl (.ref (a 0)) rfl dX4_edge_101 ?_
            refine g_iload E 1 dX4_edge_104 rfl ?_
            refine g_iload E 0 dX4_edge_106 rfl ?_
            refine g_eq (ws' := XO d x a b c e (qf q ss) ++ (SK d a S ++ (SK d b T ++ (PK d c h t ++ (HP d e p y ++ PL d q ss 2))))) rfl ?_
            refine g_perm (ws' := (SK d a S) ++ (XO d x a b c e (qf q ss) ++ (SK d b T ++ (PK d c h t ++ (HP d e p y ++ PL d q ss 2))))) px1 ?_
            refine g_callViD E (wr := XO d x a b c e (qf q ss) ++ (SK d b T ++ (PK d c h t ++ (HP d e p y ++ PL d q ss 2)))) gc_X3_tellingAt ml_X4_112 (t_X3_tellingAt d a (v1_ + 0) (v2_ + 0) S ) rfl rfl (ci := 3) 4 rfl rfl rfl rfl (ok_le rfl) ⟨ok_le rfl, ok_le rfl, ok_le rfl, ok_le rfl⟩ rfl rfl dX4_edge_108 ?_
            refine g_perm (ws' := XO d x a b c e (qf q ss) ++ (SK d a S ++ (SK d b T ++ (PK d c h t ++ (HP d e p y ++ PL d q ss 2))))) px1.symm ?_
            refine g_eq (ws' := XW d (x, a, b, c, e) p q S T h t y ss) rfl ?_
            refine g_nm (fun v4_ hv4_ => ?_)
            refine g_iconst E 0 dX4_edge_111 (by decide) ?_
            refine g_iconst E 0 dX4_edge_112 (by decide) ?_
            refine g_callSp E gc_X4_packed ml_X4_127 (t_X4_packed d 0 0 ) rfl rfl rfl (ok_le rfl) ⟨ok_le rfl, ok_le rfl, ok_le rfl, ok_le rfl⟩ rfl rfl dX4_edge_113 ?_
            refine g_nm (fun v5_ hv5_ => ?_)
            refine g_icmpeq E 122 dX4_edge_116 (by decide) (fun c_116 => ?_) (fun c_116 => ?_)
            · skip
              refine g_iinc E (j := 6) (v := (nI (k + 1))) (lv' := [(4, .int (nI (k + 1))), (6, .int (v2_ + 0)), (5, .int (v1_ + 0)), (0, .ref (x 0)), (1, .int axis), (2, .int up), (3, .int step)]) dX4_edge_122 rfl (nI_1 _) (by decide) rfl ?_
              refine g_goto E 37 dX4_edge_125 (by decide) ?_
              refine g_lvs (lv' := [(0, .ref (x 0)), (1, .int axis), (2, .int up), (3, .int step), (4, .int (nI (k + 1)))]) [3, 4, 5, 6, 0] rfl ?_
              subst hv5_
              subst hv4_
              subst hv3_
              subst hv2_
              subst hv1_
              exact ih (k + 1) step (by omega) (by omega) (fun pc_ lv_ v_ u_ h1_ h2_ h3_ h4_ => RET pc_ lv_ v_ u_ h1_ h2_ (h3_.trans (by rw [r_X4_edge_at37, if_neg c_42, if_neg c_53, if_neg c_76, if_neg c_97, if_pos c_116])) h4_)
            · skip
              refine g_iload E 6 dX4_edge_119 rfl ?_
              subst hv5_
              subst hv4_
              subst hv3_
              subst hv2_
              subst hv1_
              exact RET 121 _ (nI k) _ dX4_edge_121 rfl (by rw [r_X4_edge_at37, if_neg c_42, if_neg c_53, if_neg c_76, if_neg c_97, if_neg c_116]) rfl
        · skip
          refine g_iload_n E 4 dX4_edge_79 rfl rfl ?_
          refine g_iload E 5 dX4_edge_80 rfl ?_
          refine g_imul E dX4_edge_82 ?_
          refine g_goto E 87 dX4_edge_83 (by decide) ?_
          refine g_iadd E dX4_edge_87 ?_
          refine g_istore E (lv' := [(6, .int (v2_ + (step * (nI k)))), (5, .int (v1_ + 0)), (0, .ref (x 0)), (1, .int axis), (2, .int up), (3, .int step), (4, .int (nI k))]) dX4_edge_88 (by decide) rfl ?_
          refine g_iload E 1 dX4_edge_90 rfl ?_
          refine g_iload E 0 dX4_edge_92 rfl ?_
          refine g_callSp E gc_X4_isSample ml_X4_108 (t_X4_isSample d (v1_ + 0) (v2_ + (step * (nI k))) ) rfl rfl rfl (ok_le rfl) ⟨ok_le rfl, ok_le rfl, ok_le rfl, ok_le rfl⟩ rfl rfl dX4_edge_94 ?_
          refine g_nm (fun v6_ hv6_ => ?_)
          refine g_ifeq E 122 dX4_edge_97 (by decide) (fun c_97 => ?_) (fun c_97 => ?_)
          · skip
            refine g_iinc E (j := 6) (v := (nI (k + 1))) (lv' := [(4, .int (nI (k + 1))), (6, .int (v2_ + (step * (nI k)))), (5, .int (v1_ + 0)), (0, .ref (x 0)), (1, .int axis), (2, .int up), (3, .int step)]) dX4_edge_122 rfl (nI_1 _) (by decide) rfl ?_
            refine g_goto E 37 dX4_edge_125 (by decide) ?_
            refine g_lvs (lv' := [(0, .ref (x 0)), (1, .int axis), (2, .int up), (3, .int step), (4, .int (nI (k + 1)))]) [3, 4, 5, 6, 0] rfl ?_
            subst hv6_
            subst hv2_
            subst hv1_
            exact ih (k + 1) step (by omega) (by omega) (fun pc_ lv_ v_ u_ h1_ h2_ h3_ h4_ => RET pc_ lv_ v_ u_ h1_ h2_ (h3_.trans (by rw [r_X4_edge_at37, if_neg c_42, if_neg c_53, if_pos c_76, if_pos c_97])) h4_)
          · skip
            refine g_aload_n E 2 dX4_edge_100 rfl rfl ?_
            refine g_get E (ci := 4) inlX4 0 rfl rfl 0 (by decide) fl_X4_10 rfl (.ref (a 0)) rfl dX4_edge_101 ?_
            refine g_iload E 1 dX4_edge_104 rfl ?_
            refine g_iload E 0 dX4_edge_106 rfl ?_
            refine g_eq (ws' := XO d x a b c e (qf q ss) ++ (SK d a S ++ (SK d b T ++ (PK d c h t ++ (HP d e p y ++ PL d q ss 2))))) rfl ?_
            refine g_perm (ws' := (SK d a S) ++ (XO d x a b c e (qf q ss) ++ (SK d b T ++ (PK d c h t ++ (HP d e p y ++ PL d q ss 2))))) px1 ?_
            refine g_callViD E (wr := XO d x a b c e (qf q ss) ++ (SK d b T ++ (PK d c h t ++ (HP d e p y ++ PL d q ss 2)))) gc_X3_tellingAt ml_X4_112 (t_X3_tellingAt d a (v1_ + 0) (v2_ + (step * (nI k))) S ) rfl rfl (ci := 3) 4 rfl rfl rfl rfl (ok_le rfl) ⟨ok_le rfl, ok_le rfl, ok_le rfl, ok_le rfl⟩ rfl rfl dX4_edge_108 ?_
            refine g_perm (ws' := XO d x a b c e (qf q ss) ++ (SK d a S ++ (SK d b T ++ (PK d c h t ++ (HP d e p y ++ PL d q ss 2))))) px1.symm ?_
            refine g_eq (ws' := XW d (x, a, b, c, e) p q S T h t y ss) rfl ?_
            refine g_nm (fun v7_ hv7_ => ?_)
            refine g_iconst E 0 dX4_edge_111 (by decide) ?_
            refine g_iconst E 0 dX4_edge_112 (by decide) ?_
            refine g_callSp E gc_X4_packed ml_X4_127 (t_X4_packed d 0 0 ) rfl rfl rfl (ok_le rfl) ⟨ok_le rfl, ok_le rfl, ok_le rfl, ok_le rfl⟩ rfl rfl dX4_edge_113 ?_
            refine g_nm (fun v8_ hv8_ => ?_)
            refine g_icmpeq E 122 dX4_edge_116 (by decide) (fun c_116 => ?_) (fun c_116 => ?_)
            · skip
              refine g_iinc E (j := 6) (v := (nI (k + 1))) (lv' := [(4, .int (nI (k + 1))), (6, .int (v2_ + (step * (nI k)))), (5, .int (v1_ + 0)), (0, .ref (x 0)), (1, .int axis), (2, .int up), (3, .int step)]) dX4_edge_122 rfl (nI_1 _) (by decide) rfl ?_
              refine g_goto E 37 dX4_edge_125 (by decide) ?_
              refine g_lvs (lv' := [(0, .ref (x 0)), (1, .int axis), (2, .int up), (3, .int step), (4, .int (nI (k + 1)))]) [3, 4, 5, 6, 0] rfl ?_
              subst hv8_
              subst hv7_
              subst hv6_
              subst hv2_
              subst hv1_
              exact ih (k + 1) step (by omega) (by omega) (fun pc_ lv_ v_ u_ h1_ h2_ h3_ h4_ => RET pc_ lv_ v_ u_ h1_ h2_ (h3_.trans (by rw [r_X4_edge_at37, if_neg c_42, if_neg c_53, if_pos c_76, if_neg c_97, if_pos c_116])) h4_)
            · skip
              refine g_iload E 6 dX4_edge_119 rfl ?_
              subst hv8_
              subst hv7_
              subst hv6_
              subst hv2_
              subst hv1_
              exact RET 121 _ (nI k) _ dX4_edge_121 rfl (by rw [r_X4_edge_at37, if_neg c_42, if_neg c_53, if_pos c_76, if_neg c_97, if_neg c_116]) rfl
      · skip
        refine g_iload_n E 3 dX4_edge_56 rfl rfl ?_
        refine g_iload E 4 dX4_edge_57 rfl ?_
        refine g_imul E dX4_edge_59 ?_
        refine g_goto E 64 dX4_edge_60 (by decide) ?_
        refine g_iadd E dX4_edge_64 ?_
        refine g_istore E (lv' := [(5, .int (v1_ + (step * (nI k)))), (0, .ref (x 0)), (1, .int axis), (2, .int up), (3, .int step), (4, .int (nI k))]) dX4_edge_65 (by decide) rfl ?_
        refine g_aload_n E 1 dX4_edge_67 rfl rfl ?_
        refine g_get E (ci := 4) inlX4 0 rfl rfl 0 (by decide) fl_X4_10 rfl (.ref (a 0)) rfl dX4_edge_68 ?_
        refine g_eq (ws' := XO d x a b c e (qf q ss) ++ (SK d a S ++ (SK d b T ++ (PK d c h t ++ (HP d e p y ++ PL d q ss 2))))) rfl ?_
        refine g_perm (ws' := (SK d a S) ++ (XO d x a b c e (qf q ss) ++ (SK d b T ++ (PK d c h t ++ (HP d e p y ++ PL d q ss 2))))) px1 ?_
        refine g_callViD E (wr := XO d x a b c e (qf q ss) ++ (SK d b T ++ (PK d c h t ++ (HP d e p y ++ PL d q ss 2)))) gc_X3_restPlaceY ml_X4_124 (t_X3_restPlaceY d a S ) rfl rfl (ci := 3) 4 rfl rfl rfl rfl (ok_le rfl) ⟨ok_le rfl, ok_le rfl, ok_le rfl, ok_le rfl⟩ rfl rfl dX4_edge_71 ?_
        refine g_perm (ws' := XO d x a b c e (qf q ss) ++ (SK d a S ++ (SK d b T ++ (PK d c h t ++ (HP d e p y ++ PL d q ss 2))))) px1.symm ?_
        refine g_eq (ws' := XW d (x, a, b, c, e) p q S T h t y ss) rfl ?_
        refine g_nm (fun v9_ hv9_ => ?_)
        refine g_iload_n E 2 dX4_edge_74 rfl rfl ?_
        refine g_iconst E 1 dX4_edge_75 (by decide) ?_
        refine g_icmpne E 86 dX4_edge_76 (by decide) (fun c_76 => ?_) (fun c_76 => ?_)
        · skip
          refine g_iconst E 0 dX4_edge_86 (by decide) ?_
          refine g_iadd E dX4_edge_87 ?_
          refine g_istore E (lv' := [(6, .int (v9_ + 0)), (5, .int (v1_ + (step * (nI k)))), (0, .ref (x 0)), (1, .int axis), (2, .int up), (3, .int step), (4, .int (nI k))]) dX4_edge_88 (by decide) rfl ?_
          refine g_iload E 1 dX4_edge_90 rfl ?_
          refine g_iload E 0 dX4_edge_92 rfl ?_
          refine g_callSp E gc_X4_isSample ml_X4_108 (t_X4_isSample d (v1_ + (step * (nI k))) (v9_ + 0) ) rfl rfl rfl (ok_le rfl) ⟨ok_le rfl, ok_le rfl, ok_le rfl, ok_le rfl⟩ rfl rfl dX4_edge_94 ?_
          refine g_nm (fun v10_ hv10_ => ?_)
          refine g_ifeq E 122 dX4_edge_97 (by decide) (fun c_97 => ?_) (fun c_97 => ?_)
          · skip
            refine g_iinc E (j := 6) (v := (nI (k + 1))) (lv' := [(4, .int (nI (k + 1))), (6, .int (v9_ + 0)), (5, .int (v1_ + (step * (nI k)))), (0, .ref (x 0)), (1, .int axis), (2, .int up), (3, .int step)]) dX4_edge_122 rfl (nI_1 _) (by decide) rfl ?_
            refine g_goto E 37 dX4_edge_125 (by decide) ?_
            refine g_lvs (lv' := [(0, .ref (x 0)), (1, .int axis), (2, .int up), (3, .int step), (4, .int (nI (k + 1)))]) [3, 4, 5, 6, 0] rfl ?_
            subst hv10_
            subst hv9_
            subst hv1_
            exact ih (k + 1) step (by omega) (by omega) (fun pc_ lv_ v_ u_ h1_ h2_ h3_ h4_ => RET pc_ lv_ v_ u_ h1_ h2_ (h3_.trans (by rw [r_X4_edge_at37, if_neg c_42, if_pos c_53, if_neg c_76, if_pos c_97])) h4_)
          · skip
            refine g_aload_n E 2 dX4_edge_100 rfl rfl ?_
            refine g_get E (ci := 4) inlX4 0 rfl rfl 0 (by decide) fl_X4_10 rfl (.ref (a 0)) rfl dX4_edge_101 ?_
            refine g_iload E 1 dX4_edge_104 rfl ?_
            refine g_iload E 0 dX4_edge_106 rfl ?_
            refine g_eq (ws' := XO d x a b c e (qf q ss) ++ (SK d a S ++ (SK d b T ++ (PK d c h t ++ (HP d e p y ++ PL d q ss 2))))) rfl ?_
            refine g_perm (ws' := (SK d a S) ++ (XO d x a b c e (qf q ss) ++ (SK d b T ++ (PK d c h t ++ (HP d e p y ++ PL d q ss 2))))) px1 ?_
            refine g_callViD E (wr := XO d x a b c e (qf q ss) ++ (SK d b T ++ (PK d c h t ++ (HP d e p y ++ PL d q ss 2)))) gc_X3_tellingAt ml_X4_112 (t_X3_tellingAt d a (v1_ + (step * (nI k))) (v9_ + 0) S ) rfl rfl (ci := 3) 4 rfl rfl rfl rfl (ok_le rfl) ⟨ok_le rfl, ok_le rfl, ok_le rfl, ok_le rfl⟩ rfl rfl dX4_edge_108 ?_
            refine g_perm (ws' := XO d x a b c e (qf q ss) ++ (SK d a S ++ (SK d b T ++ (PK d c h t ++ (HP d e p y ++ PL d q ss 2))))) px1.symm ?_
            refine g_eq (ws' := XW d (x, a, b, c, e) p q S T h t y ss) rfl ?_
            refine g_nm (fun v11_ hv11_ => ?_)
            refine g_iconst E 0 dX4_edge_111 (by decide) ?_
            refine g_iconst E 0 dX4_edge_112 (by decide) ?_
            refine g_callSp E gc_X4_packed ml_X4_127 (t_X4_packed d 0 0 ) rfl rfl rfl (ok_le rfl) ⟨ok_le rfl, ok_le rfl, ok_le rfl, ok_le rfl⟩ rfl rfl dX4_edge_113 ?_
            refine g_nm (fun v12_ hv12_ => ?_)
            refine g_icmpeq E 122 dX4_edge_116 (by decide) (fun c_116 => ?_) (fun c_116 => ?_)
            · skip
              refine g_iinc E (j := 6) (v := (nI (k + 1))) (lv' := [(4, .int (nI (k + 1))), (6, .int (v9_ + 0)), (5, .int (v1_ + (step * (nI k)))), (0, .ref (x 0)), (1, .int axis), (2, .int up), (3, .int step)]) dX4_edge_122 rfl (nI_1 _) (by decide) rfl ?_
              refine g_goto E 37 dX4_edge_125 (by decide) ?_
              refine g_lvs (lv' := [(0, .ref (x 0)), (1, .int axis), (2, .int up), (3, .int step), (4, .int (nI (k + 1)))]) [3, 4, 5, 6, 0] rfl ?_
              subst hv12_
              subst hv11_
              subst hv10_
              subst hv9_
              subst hv1_
              exact ih (k + 1) step (by omega) (by omega) (fun pc_ lv_ v_ u_ h1_ h2_ h3_ h4_ => RET pc_ lv_ v_ u_ h1_ h2_ (h3_.trans (by rw [r_X4_edge_at37, if_neg c_42, if_pos c_53, if_neg c_76, if_neg c_97, if_pos c_116])) h4_)
            · skip
              refine g_iload E 6 dX4_edge_119 rfl ?_
              subst hv12_
              subst hv11_
              subst hv10_
              subst hv9_
              subst hv1_
              exact RET 121 _ (nI k) _ dX4_edge_121 rfl (by rw [r_X4_edge_at37, if_neg c_42, if_pos c_53, if_neg c_76, if_neg c_97, if_neg c_116]) rfl
        · skip
          refine g_iload_n E 4 dX4_edge_79 rfl rfl ?_
          refine g_iload E 5 dX4_edge_80 rfl ?_
          refine g_imul E dX4_edge_82 ?_
          refine g_goto E 87 dX4_edge_83 (by decide) ?_
          refine g_iadd E dX4_edge_87 ?_
          refine g_istore E (lv' := [(6, .int (v9_ + (step * (nI k)))), (5, .int (v1_ + (step * (nI k)))), (0, .ref (x 0)), (1, .int axis), (2, .int up), (3, .int step), (4, .int (nI k))]) dX4_edge_88 (by decide) rfl ?_
          refine g_iload E 1 dX4_edge_90 rfl ?_
          refine g_iload E 0 dX4_edge_92 rfl ?_
          refine g_callSp E gc_X4_isSample ml_X4_108 (t_X4_isSample d (v1_ + (step * (nI k))) (v9_ + (step * (nI k))) ) rfl rfl rfl (ok_le rfl) ⟨ok_le rfl, ok_le rfl, ok_le rfl, ok_le rfl⟩ rfl rfl dX4_edge_94 ?_
          refine g_nm (fun v13_ hv13_ => ?_)
          refine g_ifeq E 122 dX4_edge_97 (by decide) (fun c_97 => ?_) (fun c_97 => ?_)
          · skip
            refine g_iinc E (j := 6) (v := (nI (k + 1))) (lv' := [(4, .int (nI (k + 1))), (6, .int (v9_ + (step * (nI k)))), (5, .int (v1_ + (step * (nI k)))), (0, .ref (x 0)), (1, .int axis), (2, .int up), (3, .int step)]) dX4_edge_122 rfl (nI_1 _) (by decide) rfl ?_
            refine g_goto E 37 dX4_edge_125 (by decide) ?_
            refine g_lvs (lv' := [(0, .ref (x 0)), (1, .int axis), (2, .int up), (3, .int step), (4, .int (nI (k + 1)))]) [3, 4, 5, 6, 0] rfl ?_
            subst hv13_
            subst hv9_
            subst hv1_
            exact ih (k + 1) step (by omega) (by omega) (fun pc_ lv_ v_ u_ h1_ h2_ h3_ h4_ => RET pc_ lv_ v_ u_ h1_ h2_ (h3_.trans (by rw [r_X4_edge_at37, if_neg c_42, if_pos c_53, if_pos c_76, if_pos c_97])) h4_)
          · skip
            refine g_aload_n E 2 dX4_edge_100 rfl rfl ?_
            refine g_get E (ci := 4) inlX4 0 rfl rfl 0 (by decide) fl_X4_10 rfl (.ref (a 0)) rfl dX4_edge_101 ?_
            refine g_iload E 1 dX4_edge_104 rfl ?_
            refine g_iload E 0 dX4_edge_106 rfl ?_
            refine g_eq (ws' := XO d x a b c e (qf q ss) ++ (SK d a S ++ (SK d b T ++ (PK d c h t ++ (HP d e p y ++ PL d q ss 2))))) rfl ?_
            refine g_perm (ws' := (SK d a S) ++ (XO d x a b c e (qf q ss) ++ (SK d b T ++ (PK d c h t ++ (HP d e p y ++ PL d q ss 2))))) px1 ?_
            refine g_callViD E (wr := XO d x a b c e (qf q ss) ++ (SK d b T ++ (PK d c h t ++ (HP d e p y ++ PL d q ss 2)))) gc_X3_tellingAt ml_X4_112 (t_X3_tellingAt d a (v1_ + (step * (nI k))) (v9_ + (step * (nI k))) S ) rfl rfl (ci := 3) 4 rfl rfl rfl rfl (ok_le rfl) ⟨ok_le rfl, ok_le rfl, ok_le rfl, ok_le rfl⟩ rfl rfl dX4_edge_108 ?_
            refine g_perm (ws' := XO d x a b c e (qf q ss) ++ (SK d a S ++ (SK d b T ++ (PK d c h t ++ (HP d e p y ++ PL d q ss 2))))) px1.symm ?_
            refine g_eq (ws' := XW d (x, a, b, c, e) p q S T h t y ss) rfl ?_
            refine g_nm (fun v14_ hv14_ => ?_)
            refine g_iconst E 0 dX4_edge_111 (by decide) ?_
            refine g_iconst E 0 dX4_edge_112 (by decide) ?_
            refine g_callSp E gc_X4_packed ml_X4_127 (t_X4_packed d 0 0 ) rfl rfl rfl (ok_le rfl) ⟨ok_le rfl, ok_le rfl, ok_le rfl, ok_le rfl⟩ rfl rfl dX4_edge_113 ?_
            refine g_nm (fun v15_ hv15_ => ?_)
            refine g_icmpeq E 122 dX4_edge_116 (by decide) (fun c_116 => ?_) (fun c_116 => ?_)
            · skip
              refine g_iinc E (j := 6) (v := (nI (k + 1))) (lv' := [(4, .int (nI (k + 1))), (6, .int (v9_ + (step * (nI k)))), (5, .int (v1_ + (step * (nI k)))), (0, .ref (x 0)), (1, .int axis), (2, .int up), (3, .int step)]) dX4_edge_122 rfl (nI_1 _) (by decide) rfl ?_
              refine g_goto E 37 dX4_edge_125 (by decide) ?_
              refine g_lvs (lv' := [(0, .ref (x 0)), (1, .int axis), (2, .int up), (3, .int step), (4, .int (nI (k + 1)))]) [3, 4, 5, 6, 0] rfl ?_
              subst hv15_
              subst hv14_
              subst hv13_
              subst hv9_
              subst hv1_
              exact ih (k + 1) step (by omega) (by omega) (fun pc_ lv_ v_ u_ h1_ h2_ h3_ h4_ => RET pc_ lv_ v_ u_ h1_ h2_ (h3_.trans (by rw [r_X4_edge_at37, if_neg c_42, if_pos c_53, if_pos c_76, if_neg c_97, if_pos c_116])) h4_)
            · skip
              refine g_iload E 6 dX4_edge_119 rfl ?_
              subst hv15_
              subst hv14_
              subst hv13_
              subst hv9_
              subst hv1_
              exact RET 121 _ (nI k) _ dX4_edge_121 rfl (by rw [r_X4_edge_at37, if_neg c_42, if_pos c_53, if_pos c_76, if_neg c_97, if_neg c_116]) rfl
set_option maxHeartbeats 1000000 in
set_option maxRecDepth 100000 in
theorem s_X4_edge_0 (d : gD) (x : Nat → Nat) (a : Nat → Nat) (b : Nat → Nat) (c : Nat → Nat) (e : Nat → Nat) (axis : Int32) (up : Int32) (p : Nat → Nat → Nat) (q : Nat → Nat → Nat) (S : SS) (T : SS) (h : Nat → Int32) (t : Nat → Int32) (y : HS) (ss : Nat → Option SS)   {X : gX} (E : gE d X RX4 cX4_edge 7 R_X4_edge) (RET : ∀ (pc_ : Nat) (lv_ : List (Nat × Value)) (v_ : Int32) (u_ : va_W), decode cX4_edge pc_ = .ok (.ireturn, 1) → narrow .int (.int v_) = .int v_ → v_ = r_X4_edge axis up S → u_ = XW d (x, a, b, c, e) p q S T h t y ss → G d X u_ R_X4_edge.cells R_X4_edge.slots pc_ lv_ [.int v_]) : G d X (XW d (x, a, b, c, e) p q S T h t y ss) 0 0 0 [(0, .ref (x 0)), (1, .int axis), (2, .int up)] [] := by
  refine g_iload_n E 1 dX4_edge_0 rfl rfl ?_
  refine g_ifeq E 11 dX4_edge_1 (by decide) (fun c_1 => ?_) (fun c_1 => ?_)
  · skip
    refine g_iload_n E 2 dX4_edge_11 rfl rfl ?_
    refine g_ifeq E 23 dX4_edge_12 (by decide) (fun c_12 => ?_) (fun c_12 => ?_)
    · skip
      refine g_iload_n E 2 dX4_edge_23 rfl rfl ?_
      refine g_iconst E 1 dX4_edge_24 (by decide) ?_
      refine g_icmpne E 32 dX4_edge_25 (by decide) (fun c_25 => ?_) (fun c_25 => ?_)
      · skip
        refine g_iconst E (-1) dX4_edge_32 (by decide) ?_
        refine g_istore_n E (lv' := [(3, .int (-1)), (0, .ref (x 0)), (1, .int axis), (2, .int up)]) dX4_edge_33 rfl (by decide) rfl ?_
        refine g_iconst E 1 dX4_edge_34 (by decide) ?_
        refine g_istore E (lv' := [(4, .int 1), (3, .int (-1)), (0, .ref (x 0)), (1, .int axis), (2, .int up)]) dX4_edge_35 (by decide) rfl ?_
        refine g_lvs (lv' := [(0, .ref (x 0)), (1, .int axis), (2, .int up), (3, .int (-1)), (4, .int 1)]) [2, 3, 4, 1, 0] rfl ?_
        exact s_X4_edge_37 d x a b c e axis up p q S T h t y ss  E 257 1 (-1) (by omega) (by omega) (fun pc_ lv_ v_ u_ h1_ h2_ h3_ h4_ => RET pc_ lv_ v_ u_ h1_ h2_ (h3_.trans (by rw [r_X4_edge, if_pos c_1, if_pos c_12, if_neg c_25])) h4_)
      · skip
        refine g_iconst E 1 dX4_edge_28 (by decide) ?_
        refine g_goto E 33 dX4_edge_29 (by decide) ?_
        refine g_istore_n E (lv' := [(3, .int 1), (0, .ref (x 0)), (1, .int axis), (2, .int up)]) dX4_edge_33 rfl (by decide) rfl ?_
        refine g_iconst E 1 dX4_edge_34 (by decide) ?_
        refine g_istore E (lv' := [(4, .int 1), (3, .int 1), (0, .ref (x 0)), (1, .int axis), (2, .int up)]) dX4_edge_35 (by decide) rfl ?_
        refine g_lvs (lv' := [(0, .ref (x 0)), (1, .int axis), (2, .int up), (3, .int 1), (4, .int 1)]) [2, 3, 4, 1, 0] rfl ?_
        exact s_X4_edge_37 d x a b c e axis up p q S T h t y ss  E 257 1 1 (by omega) (by omega) (fun pc_ lv_ v_ u_ h1_ h2_ h3_ h4_ => RET pc_ lv_ v_ u_ h1_ h2_ (h3_.trans (by rw [r_X4_edge, if_pos c_1, if_pos c_12, if_pos c_25])) h4_)
    · skip
      refine g_iload_n E 2 dX4_edge_15 rfl rfl ?_
      refine g_iconst E 1 dX4_edge_16 (by decide) ?_
      refine g_icmpeq E 23 dX4_edge_17 (by decide) (fun c_17 => ?_) (fun c_17 => ?_)
      · skip
        refine g_iload_n E 2 dX4_edge_23 rfl rfl ?_
        refine g_iconst E 1 dX4_edge_24 (by decide) ?_
        refine g_icmpne E 32 dX4_edge_25 (by decide) (fun c_25 => ?_) (fun c_25 => ?_)
        · skip
          refine g_iconst E (-1) dX4_edge_32 (by decide) ?_
          refine g_istore_n E (lv' := [(3, .int (-1)), (0, .ref (x 0)), (1, .int axis), (2, .int up)]) dX4_edge_33 rfl (by decide) rfl ?_
          refine g_iconst E 1 dX4_edge_34 (by decide) ?_
          refine g_istore E (lv' := [(4, .int 1), (3, .int (-1)), (0, .ref (x 0)), (1, .int axis), (2, .int up)]) dX4_edge_35 (by decide) rfl ?_
          refine g_lvs (lv' := [(0, .ref (x 0)), (1, .int axis), (2, .int up), (3, .int (-1)), (4, .int 1)]) [2, 3, 4, 1, 0] rfl ?_
          exact s_X4_edge_37 d x a b c e axis up p q S T h t y ss  E 257 1 (-1) (by omega) (by omega) (fun pc_ lv_ v_ u_ h1_ h2_ h3_ h4_ => RET pc_ lv_ v_ u_ h1_ h2_ (h3_.trans (by rw [r_X4_edge, if_pos c_1, if_neg c_12, if_pos c_17, if_neg c_25])) h4_)
        · skip
          refine g_iconst E 1 dX4_edge_28 (by decide) ?_
          refine g_goto E 33 dX4_edge_29 (by decide) ?_
          refine g_istore_n E (lv' := [(3, .int 1), (0, .ref (x 0)), (1, .int axis), (2, .int up)]) dX4_edge_33 rfl (by decide) rfl ?_
          refine g_iconst E 1 dX4_edge_34 (by decide) ?_
          refine g_istore E (lv' := [(4, .int 1), (3, .int 1), (0, .ref (x 0)), (1, .int axis), (2, .int up)]) dX4_edge_35 (by decide) rfl ?_
          refine g_lvs (lv' := [(0, .ref (x 0)), (1, .int axis), (2, .int up), (3, .int 1), (4, .int 1)]) [2, 3, 4, 1, 0] rfl ?_
          exact s_X4_edge_37 d x a b c e axis up p q S T h t y ss  E 257 1 1 (by omega) (by omega) (fun pc_ lv_ v_ u_ h1_ h2_ h3_ h4_ => RET pc_ lv_ v_ u_ h1_ h2_ (h3_.trans (by rw [r_X4_edge, if_pos c_1, if_neg c_12, if_pos c_17, if_pos c_25])) h4_)
      · skip
        refine g_bipush E (-2) dX4_edge_20 (by decide) ?_
        exact RET 22 _ (-2) _ dX4_edge_22 rfl (by rw [r_X4_edge, if_pos c_1, if_neg c_12, if_neg c_17]) rfl
  · skip
    refine g_iload_n E 1 dX4_edge_4 rfl rfl ?_
    refine g_iconst E 1 dX4_edge_5 (by decide) ?_
    refine g_icmpeq E 11 dX4_edge_6 (by decide) (fun c_6 => ?_) (fun c_6 => ?_)
    · skip
      refine g_iload_n E 2 dX4_edge_11 rfl rfl ?_
      refine g_ifeq E 23 dX4_edge_12 (by decide) (fun c_12 => ?_) (fun c_12 => ?_)
      · skip
        refine g_iload_n E 2 dX4_edge_23 rfl rfl ?_
        refine g_iconst E 1 dX4_edge_24 (by decide) ?_
        refine g_icmpne E 32 dX4_edge_25 (by decide) (fun c_25 => ?_) (fun c_25 => ?_)
        · skip
          refine g_iconst E (-1) dX4_edge_32 (by decide) ?_
          refine g_istore_n E (lv' := [(3, .int (-1)), (0, .ref (x 0)), (1, .int axis), (2, .int up)]) dX4_edge_33 rfl (by decide) rfl ?_
          refine g_iconst E 1 dX4_edge_34 (by decide) ?_
          refine g_istore E (lv' := [(4, .int 1), (3, .int (-1)), (0, .ref (x 0)), (1, .int axis), (2, .int up)]) dX4_edge_35 (by decide) rfl ?_
          refine g_lvs (lv' := [(0, .ref (x 0)), (1, .int axis), (2, .int up), (3, .int (-1)), (4, .int 1)]) [2, 3, 4, 1, 0] rfl ?_
          exact s_X4_edge_37 d x a b c e axis up p q S T h t y ss  E 257 1 (-1) (by omega) (by omega) (fun pc_ lv_ v_ u_ h1_ h2_ h3_ h4_ => RET pc_ lv_ v_ u_ h1_ h2_ (h3_.trans (by rw [r_X4_edge, if_neg c_1, if_pos c_6, if_pos c_12, if_neg c_25])) h4_)
        · skip
          refine g_iconst E 1 dX4_edge_28 (by decide) ?_
          refine g_goto E 33 dX4_edge_29 (by decide) ?_
          refine g_istore_n E (lv' := [(3, .int 1), (0, .ref (x 0)), (1, .int axis), (2, .int up)]) dX4_edge_33 rfl (by decide) rfl ?_
          refine g_iconst E 1 dX4_edge_34 (by decide) ?_
          refine g_istore E (lv' := [(4, .int 1), (3, .int 1), (0, .ref (x 0)), (1, .int axis), (2, .int up)]) dX4_edge_35 (by decide) rfl ?_
          refine g_lvs (lv' := [(0, .ref (x 0)), (1, .int axis), (2, .int up), (3, .int 1), (4, .int 1)]) [2, 3, 4, 1, 0] rfl ?_
          exact s_X4_edge_37 d x a b c e axis up p q S T h t y ss  E 257 1 1 (by omega) (by omega) (fun pc_ lv_ v_ u_ h1_ h2_ h3_ h4_ => RET pc_ lv_ v_ u_ h1_ h2_ (h3_.trans (by rw [r_X4_edge, if_neg c_1, if_pos c_6, if_pos c_12, if_pos c_25])) h4_)
      · skip
        refine g_iload_n E 2 dX4_edge_15 rfl rfl ?_
        refine g_iconst E 1 dX4_edge_16 (by decide) ?_
        refine g_icmpeq E 23 dX4_edge_17 (by decide) (fun c_17 => ?_) (fun c_17 => ?_)
        · skip
          refine g_iload_n E 2 dX4_edge_23 rfl rfl ?_
          refine g_iconst E 1 dX4_edge_24 (by decide) ?_
          refine g_icmpne E 32 dX4_edge_25 (by decide) (fun c_25 => ?_) (fun c_25 => ?_)
          · skip
            refine g_iconst E (-1) dX4_edge_32 (by decide) ?_
            refine g_istore_n E (lv' := [(3, .int (-1)), (0, .ref (x 0)), (1, .int axis), (2, .int up)]) dX4_edge_33 rfl (by decide) rfl ?_
            refine g_iconst E 1 dX4_edge_34 (by decide) ?_
            refine g_istore E (lv' := [(4, .int 1), (3, .int (-1)), (0, .ref (x 0)), (1, .int axis), (2, .int up)]) dX4_edge_35 (by decide) rfl ?_
            refine g_lvs (lv' := [(0, .ref (x 0)), (1, .int axis), (2, .int up), (3, .int (-1)), (4, .int 1)]) [2, 3, 4, 1, 0] rfl ?_
            exact s_X4_edge_37 d x a b c e axis up p q S T h t y ss  E 257 1 (-1) (by omega) (by omega) (fun pc_ lv_ v_ u_ h1_ h2_ h3_ h4_ => RET pc_ lv_ v_ u_ h1_ h2_ (h3_.trans (by rw [r_X4_edge, if_neg c_1, if_pos c_6, if_neg c_12, if_pos c_17, if_neg c_25])) h4_)
          · skip
            refine g_iconst E 1 dX4_edge_28 (by decide) ?_
            refine g_goto E 33 dX4_edge_29 (by decide) ?_
            refine g_istore_n E (lv' := [(3, .int 1), (0, .ref (x 0)), (1, .int axis), (2, .int up)]) dX4_edge_33 rfl (by decide) rfl ?_
            refine g_iconst E 1 dX4_edge_34 (by decide) ?_
            refine g_istore E (lv' := [(4, .int 1), (3, .int 1), (0, .ref (x 0)), (1, .int axis), (2, .int up)]) dX4_edge_35 (by decide) rfl ?_
            refine g_lvs (lv' := [(0, .ref (x 0)), (1, .int axis), (2, .int up), (3, .int 1), (4, .int 1)]) [2, 3, 4, 1, 0] rfl ?_
            exact s_X4_edge_37 d x a b c e axis up p q S T h t y ss  E 257 1 1 (by omega) (by omega) (fun pc_ lv_ v_ u_ h1_ h2_ h3_ h4_ => RET pc_ lv_ v_ u_ h1_ h2_ (h3_.trans (by rw [r_X4_edge, if_neg c_1, if_pos c_6, if_neg c_12, if_pos c_17, if_pos c_25])) h4_)
        · skip
          refine g_bipush E (-2) dX4_edge_20 (by decide) ?_
          exact RET 22 _ (-2) _ dX4_edge_22 rfl (by rw [r_X4_edge, if_neg c_1, if_pos c_6, if_neg c_12, if_neg c_17]) rfl
    · skip
      refine g_iconst E (-1) dX4_edge_9 (by decide) ?_
      exact RET 10 _ (-1) _ dX4_edge_10 rfl (by rw [r_X4_edge, if_neg c_1, if_neg c_6]) rfl
set_option maxHeartbeats 1000000 in
set_option maxRecDepth 100000 in
theorem t_X4_edge (d : gD) (x : Nat → Nat) (a : Nat → Nat) (b : Nat → Nat) (c : Nat → Nat) (e : Nat → Nat) (axis : Int32) (up : Int32) (p : Nat → Nat → Nat) (q : Nat → Nat → Nat) (S : SS) (T : SS) (h : Nat → Int32) (t : Nat → Int32) (y : HS) (ss : Nat → Option SS)  : gMi d yX4_edge cX4_edge 7 (some .int) R_X4_edge [.ref (x 0), .int axis, .int up] (XW d (x, a, b, c, e) p q S T h t y ss) (fun r_ u_ => r_ = r_X4_edge axis up S ∧ u_ = XW d (x, a, b, c, e) p q S T h t y ss) :=
  g_met_i RX4 rfl (by decide +kernel) (Nat.le_of_ble_eq_true rfl) [(0, .ref (x 0)), (1, .int axis), (2, .int up)] rfl (fun X E RET => s_X4_edge_0 d x a b c e axis up p q S T h t y ss  E (fun pc_ lv_ v_ u_ h1_ h2_ h3_ h4_ => RET pc_ lv_ v_ u_ h1_ h2_ ⟨h3_, h4_⟩))
abbrev R_X4_undo : Room := { frames := 4, cells := 0, slots := 0, locals := 86 }
def r_X4_undo (S : SS) (y : HS) : Int32 := (r_X1_takeBack y S)
def c_X4_undo_1 (S : SS) (y : HS) : SS := (c_X1_takeBack_S y S)
def c_X4_undo_y (S : SS) (y : HS) : HS := (c_X1_takeBack_y y S)
set_option maxHeartbeats 1000000 in
set_option maxRecDepth 100000 in
theorem s_X4_undo_0 (d : gD) (x : Nat → Nat) (a : Nat → Nat) (b : Nat → Nat) (c : Nat → Nat) (e : Nat → Nat) (p : Nat → Nat → Nat) (q : Nat → Nat → Nat) (S : SS) (T : SS) (h : Nat → Int32) (t : Nat → Int32) (y : HS) (ss : Nat → Option SS) (hy : y.1 < 6 ∧ y.2.1 ≤ 6)  {X : gX} (E : gE d X RX4 cX4_undo 1 R_X4_undo) (RET : ∀ (pc_ : Nat) (lv_ : List (Nat × Value)) (v_ : Int32) (u_ : va_W), decode cX4_undo pc_ = .ok (.ireturn, 1) → narrow .int (.int v_) = .int v_ → v_ = r_X4_undo S y → u_ = XW d (x, a, b, c, e) p q (c_X4_undo_1 S y) T h t (c_X4_undo_y S y) ss → G d X u_ R_X4_undo.cells R_X4_undo.slots pc_ lv_ [.int v_]) : G d X (XW d (x, a, b, c, e) p q S T h t y ss) 0 0 0 [(0, .ref (x 0))] [] := by
  refine g_aload_n E 0 dX4_undo_0 rfl rfl ?_
  refine g_get E (ci := 4) inlX4 0 rfl rfl 3 (by decide) fl_X4_29 rfl (.ref (e 0)) rfl dX4_undo_1 ?_
  refine g_aload_n E 0 dX4_undo_4 rfl rfl ?_
  refine g_get E (ci := 4) inlX4 0 rfl rfl 0 (by decide) fl_X4_10 rfl (.ref (a 0)) rfl dX4_undo_5 ?_
  refine g_eq (ws' := XO d x a b c e (qf q ss) ++ (SK d a S ++ (SK d b T ++ (PK d c h t ++ (HP d e p y ++ PL d q ss 2))))) rfl ?_
  refine g_perm (ws' := (HP d e p y ++ SK d a S) ++ (XO d x a b c e (qf q ss) ++ (SK d b T ++ (PK d c h t ++ PL d q ss 2)))) px41 ?_
  refine g_callViD E (wr := XO d x a b c e (qf q ss) ++ (SK d b T ++ (PK d c h t ++ PL d q ss 2))) gc_X1_takeBack ml_X4_176 (t2_X1_takeBack d e a p y S hy.1 hy.2) rfl rfl (ci := 1) 0 rfl rfl rfl rfl (ok_le rfl) ⟨ok_le rfl, ok_le rfl, ok_le rfl, ok_le rfl⟩ rfl rfl dX4_undo_8 ?_
  refine g_perm (ws' := XO d x a b c e (qf q ss) ++ (SK d a (c_X1_takeBack_S y S) ++ (SK d b T ++ (PK d c h t ++ (HP d e p (c_X1_takeBack_y y S) ++ PL d q ss 2))))) px41.symm ?_
  refine g_eq (ws' := XW d (x, a, b, c, e) p q (c_X1_takeBack_S y S) T h t (c_X1_takeBack_y y S) ss) rfl ?_
  obtain ⟨S1_, hS1_⟩ : ∃ z, c_X1_takeBack_y y S = z := ⟨_, rfl⟩
  rw [hS1_]
  obtain ⟨S2_, hS2_⟩ : ∃ z, c_X1_takeBack_S y S = z := ⟨_, rfl⟩
  rw [hS2_]
  refine g_nm (fun v3_ hv3_ => ?_)
  subst hv3_
  subst hS2_
  subst hS1_
  exact RET 11 _ (r_X1_takeBack y S) _ dX4_undo_11 rfl (by rw [r_X4_undo]) (by rw [c_X4_undo_1, c_X4_undo_y])
set_option maxHeartbeats 1000000 in
set_option maxRecDepth 100000 in
theorem t_X4_undo (d : gD) (x : Nat → Nat) (a : Nat → Nat) (b : Nat → Nat) (c : Nat → Nat) (e : Nat → Nat) (p : Nat → Nat → Nat) (q : Nat → Nat → Nat) (S : SS) (T : SS) (h : Nat → Int32) (t : Nat → Int32) (y : HS) (ss : Nat → Option SS) (hy : y.1 < 6 ∧ y.2.1 ≤ 6) : gMi d yX4_undo cX4_undo 1 (some .int) R_X4_undo [.ref (x 0)] (XW d (x, a, b, c, e) p q S T h t y ss) (fun r_ u_ => r_ = r_X4_undo S y ∧ u_ = XW d (x, a, b, c, e) p q (c_X4_undo_1 S y) T h t (c_X4_undo_y S y) ss) :=
  g_met_i RX4 rfl (by decide +kernel) (Nat.le_of_ble_eq_true rfl) [(0, .ref (x 0))] rfl (fun X E RET => s_X4_undo_0 d x a b c e p q S T h t y ss hy E (fun pc_ lv_ v_ u_ h1_ h2_ h3_ h4_ => RET pc_ lv_ v_ u_ h1_ h2_ ⟨h3_, h4_⟩))
end
section
theorem pm_s {α : Type} {K A X B P H L Q : List α} (h : (K ++ L).Perm Q) : ((K ++ A) ++ (X ++ (B ++ (P ++ (H ++ L))))).Perm (X ++ (A ++ (B ++ (P ++ (H ++ Q))))) := by
  have h1 : (X ++ (A ++ (B ++ (P ++ (H ++ Q))))).Perm (X ++ (A ++ (B ++ (P ++ (H ++ (K ++ L)))))) := ((((h.symm.append_left H).append_left P).append_left B).append_left A).append_left X
  have h2 : (B ++ (P ++ (H ++ (K ++ L)))).Perm (K ++ (B ++ (P ++ (H ++ L)))) := px3
  have h3 : (A ++ (B ++ (P ++ (H ++ (K ++ L))))).Perm (K ++ (A ++ (B ++ (P ++ (H ++ L))))) := (h2.append_left A).trans px1
  have h4 : (X ++ (A ++ (B ++ (P ++ (H ++ (K ++ L)))))).Perm (K ++ (A ++ (X ++ (B ++ (P ++ (H ++ L)))))) := ((h3.append_left X).trans px1).trans (px1.append_left K)
  rw [List.append_assoc]
  exact (h1.trans h4).symm
theorem pm_t {α : Type} {K A X B P H L Q : List α} (h : (K ++ L).Perm Q) : ((A ++ K) ++ (X ++ (B ++ (P ++ (H ++ L))))).Perm (X ++ (A ++ (B ++ (P ++ (H ++ Q))))) := (List.perm_append_comm.append_right _).trans (pm_s h)
theorem pm_u {α : Type} {K A X R : List α} : (K ++ (X ++ (A ++ R))).Perm ((K ++ A) ++ (X ++ R)) := by
  rw [List.append_assoc]
  exact px1.append_left K
def r_X4_save (slot : Int32) (S : SS) : Int32 := if slot < 0 then -2 else (if slot < 2 then S.1 21 else -2)
def c_X4_save_ss (slot : Int32) (S : SS) (ss : Nat → Option SS) : Nat → Option SS := if slot < 0 then ss else (if slot < 2 then sup ss slot.toNatClampNeg (some S) else ss)
abbrev R_X4_save : Room := { frames := 3, cells := 6, slots := 57, locals := 63 }
set_option maxHeartbeats 2000000 in
set_option maxRecDepth 100000 in
theorem s_X4_save_50 (d : gD) (x a b c e : Nat → Nat) (slot : Int32) (b1 : Nat) (p q : Nat → Nat → Nat) (S T : SS) (h t : Nat → Int32) (y : HS) (ss : Nat → Option SS) {X : gX} (E : gE d X RX4 cX4_save 3 R_X4_save) (RET : ∀ (pc : Nat) (lv : List (Nat × Value)) (v : Int32) (u : va_W), decode cX4_save pc = .ok (.ireturn, 1) → narrow .int (.int v) = .int v → v = S.1 21 → u = XW d (x, a, b, c, e) p q S T h t y ss → G d X u R_X4_save.cells R_X4_save.slots pc lv [.int v]) : G d X (XW d (x, a, b, c, e) p q S T h t y ss) 6 57 50 [(0, .ref (x 0)), (1, .int slot), (2, .ref b1)] [] := by
  refine g_aload_n E 0 dX4_save_50 rfl rfl ?_
  refine g_get E (ci := 4) inlX4 0 rfl rfl 0 (by decide) fl_X4_10 rfl (.ref (a 0)) rfl dX4_save_51 ?_
  refine g_getN E (ci := 3) inlX3 6 rfl rfl 11 (by decide) (List.mem_of_getElem? (i := 3) rfl) rfl (.int (S.1 21)) rfl dX4_save_54 ?_
  exact RET 57 _ _ _ dX4_save_57 rfl rfl rfl
set_option maxHeartbeats 2000000 in
set_option maxRecDepth 100000 in
theorem t_X4_save (d : gD) (x a b c e : Nat → Nat) (slot : Int32) (p q : Nat → Nat → Nat) (S T : SS) (h t : Nat → Int32) (y : HS) (ss : Nat → Option SS) : gMi d yX4_save cX4_save 3 (some .int) R_X4_save [.ref (x 0), .int slot] (XW d (x, a, b, c, e) p q S T h t y ss) (fun r u => r = r_X4_save slot S ∧ ∃ q', u = XW d (x, a, b, c, e) p q' S T h t y (c_X4_save_ss slot S ss)) := by
  refine g_met_i RX4 rfl (by decide +kernel) (Nat.le_of_ble_eq_true rfl) [(0, .ref (x 0)), (1, .int slot)] rfl (fun X E RET => ?_)
  refine g_iload_n E 1 dX4_save_0 rfl rfl ?_
  refine g_iflt E 13 dX4_save_1 (by decide) (fun c0 => ?_) (fun c0 => ?_)
  · refine g_bipush E (-2) dX4_save_13 (by decide) ?_
    refine g_widen (k1 := R_X4_save.cells) (n1 := R_X4_save.slots) (ok_le rfl) (ok_le rfl) ?_
    exact RET 15 _ _ _ dX4_save_15 rfl ⟨by rw [r_X4_save, if_pos c0], q, by rw [c_X4_save_ss, if_pos c0]⟩
  refine g_iload_n E 1 dX4_save_4 rfl rfl ?_
  refine g_aload_n E 0 dX4_save_5 rfl rfl ?_
  refine g_get E (ci := 4) inlX4 0 rfl rfl 4 (by decide) fl_X4_33 rfl (.ref (x 1)) rfl dX4_save_6 ?_
  refine g_alen E 1 3 rfl rfl 2 rfl dX4_save_9 ?_
  refine g_icmplt E 16 dX4_save_10 (by decide) (fun c1 => ?_) (fun c1 => ?_)
  · obtain ⟨i, hi⟩ : ∃ i, slot.toNatClampNeg = i := ⟨_, rfl⟩
    have hsl : slot = nI i := by rw [← hi]; exact ix_eq c0
    have hi2 : i < 2 := by rw [← hi]; exact ix_lt (N := 2) c0 c1
    have hr : r_X4_save slot S = S.1 21 := by rw [r_X4_save, if_neg c0, if_pos c1]
    have hc : c_X4_save_ss slot S ss = sup ss i (some S) := by rw [c_X4_save_ss, if_neg c0, if_pos c1, hi]
    rw [hr, hc] at RET
    refine g_aload_n E 0 dX4_save_16 rfl rfl ?_
    refine g_get E (ci := 4) inlX4 0 rfl rfl 4 (by decide) fl_X4_33 rfl (.ref (x 1)) rfl dX4_save_17 ?_
    refine g_iload_n E 1 dX4_save_20 rfl rfl ?_
    refine g_aald E 1 rfl rfl i hsl hi2 (by decide) dX4_save_21 ?_
    cases hT : ss i with
    | some T0 =>
      refine g_st (st' := [.ref (q i 0)]) (by unfold qf; rw [hT]; rfl) ?_
      refine g_astore_n E (lv' := [(2, .ref (q i 0)), (0, .ref (x 0)), (1, .int slot)]) dX4_save_22 rfl (by decide) rfl ?_
      refine g_aload_n E 0 dX4_save_23 rfl rfl ?_
      refine g_ifnonnull E 42 dX4_save_24 (by decide) ?_
      refine g_aload_n E 0 dX4_save_42 rfl rfl ?_
      refine g_aload_n E 1 dX4_save_43 rfl rfl ?_
      refine g_get E (ci := 4) inlX4 0 rfl rfl 0 (by decide) fl_X4_10 rfl (.ref (a 0)) rfl dX4_save_44 ?_
      refine g_eq (ws' := XO d x a b c e (qf q ss) ++ (SK d a S ++ (SK d b T ++ (PK d c h t ++ (HP d e p y ++ PL d q ss 2))))) rfl ?_
      refine g_perm (ws' := (SK d (q i) T0 ++ SK d a S) ++ (XO d x a b c e (qf q ss) ++ (SK d b T ++ (PK d c h t ++ (HP d e p y ++ PL d q (sup ss i none) 2))))) (pm_s (PL_take d q ss hT 2 hi2).symm).symm ?_
      refine g_callVvD E gc_X3_becomeLike ml_X4_115 (t2_X3_becomeLike d (q i) a T0 S) rfl rfl (ci := 3) 4 rfl rfl rfl rfl (ok_le rfl) ⟨ok_le rfl, ok_le rfl, ok_le rfl, ok_le rfl⟩ rfl rfl dX4_save_47 ?_
      refine g_perm (ws' := XO d x a b c e (qf q ss) ++ (SK d a S ++ (SK d b T ++ (PK d c h t ++ (HP d e p y ++ PL d (pup q i (q i)) (sup ss i (some S)) 2))))) (pm_s (by rw [← sup_sup ss i none (some S)]; exact PL_put d q (sup ss i none) (sup_at _ _ _) (q i) S 2 hi2)) ?_
      refine g_eq (ws' := XW d (x, a, b, c, e) p (pup q i (q i)) S T h t y (sup ss i (some S))) (by rw [qf_same q ss hT S]; rfl) ?_
      refine g_widen (k1 := 6) (n1 := 57) (ok_le rfl) (ok_le rfl) ?_
      refine g_lvs (lv' := [(0, .ref (x 0)), (1, .int slot), (2, .ref (q i 0))]) [1, 2, 0] rfl ?_
      exact s_X4_save_50 d x a b c e slot (q i 0) p _ S T h t y _ E (fun pc lv v u h1 h2 h3 h4 => RET pc lv v u h1 h2 ⟨h3, _, h4⟩)
    | none =>
      refine g_st (st' := [.null]) (by unfold qf; rw [hT]; rfl) ?_
      refine g_astore_nN E (lv' := [(2, .null), (0, .ref (x 0)), (1, .int slot)]) dX4_save_22 rfl (by decide) rfl ?_
      refine g_aload_nN E 0 dX4_save_23 rfl rfl ?_
      refine g_ifnonnullN E dX4_save_24 ?_
      refine g_new E (T := TX3) (N := 17) (ci := 3) inlX3 tyX3 tyX3_ok cl_X4_7 ib_RX3 it_RX3 rfl dfX3 dvX3 (ok_le rfl) (ok_le rfl) dX4_save_27 (fun n _ => ?_)
      refine g_dup E dX4_save_30 rfl ?_
      refine g_perm (ws' := [(n, .inr (3, dfX3))] ++ (XW d (x, a, b, c, e) p q S T h t y ss)) List.perm_append_comm ?_
      refine g_callIv E gc_X3_init ml_X4_9 (t_X3_init d n) rfl rfl rfl rfl (ok_le rfl) ⟨ok_le rfl, ok_le rfl, ok_le rfl, ok_le rfl⟩ rfl rfl dX4_save_31 ?_
      rintro u ⟨b1, eb, rfl⟩
      subst eb
      refine g_astore_n E (lv' := [(2, .ref (b1 0)), (0, .ref (x 0)), (1, .int slot)]) dX4_save_34 rfl (by decide) rfl ?_
      refine g_aload_n E 1 dX4_save_35 rfl rfl ?_
      refine g_get E (ci := 4) inlX4 6 rfl rfl 4 (by decide) fl_X4_33 rfl (.ref (x 1)) rfl dX4_save_36 ?_
      refine g_iload_n E 2 dX4_save_39 rfl rfl ?_
      refine g_aload_n E 0 dX4_save_40 rfl rfl ?_
      refine g_aast E 7 4 rfl rfl rfl i hsl hi2 (by decide) (ws' := SK d b1 S0 ++ (XO d x a b c e (va_up (qf q ss) i (some (b1 0))) ++ (SK d a S ++ (SK d b T ++ (PK d c h t ++ (HP d e p y ++ PL d q ss 2)))))) rfl dX4_save_41 ?_
      refine g_aload_n E 0 dX4_save_42 rfl rfl ?_
      refine g_aload_n E 1 dX4_save_43 rfl rfl ?_
      refine g_get E (ci := 4) inlX4 6 rfl rfl 0 (by decide) fl_X4_10 rfl (.ref (a 0)) rfl dX4_save_44 ?_
      refine g_perm (ws' := (SK d b1 S0 ++ SK d a S) ++ (XO d x a b c e (va_up (qf q ss) i (some (b1 0))) ++ (SK d b T ++ (PK d c h t ++ (HP d e p y ++ PL d q ss 2))))) pm_u ?_
      refine g_callVvD E gc_X3_becomeLike ml_X4_115 (t2_X3_becomeLike d b1 a S0 S) rfl rfl (ci := 3) 4 rfl rfl rfl rfl (ok_le rfl) ⟨ok_le rfl, ok_le rfl, ok_le rfl, ok_le rfl⟩ rfl rfl dX4_save_47 ?_
      refine g_perm (ws' := XO d x a b c e (va_up (qf q ss) i (some (b1 0))) ++ (SK d a S ++ (SK d b T ++ (PK d c h t ++ (HP d e p y ++ PL d (pup q i b1) (sup ss i (some S)) 2))))) (pm_s (PL_put d q ss hT b1 S 2 hi2)) ?_
      refine g_eq (ws' := XW d (x, a, b, c, e) p (pup q i b1) S T h t y (sup ss i (some S))) (by rw [qf_up q ss i b1 S]; rfl) ?_
      refine g_lvs (lv' := [(0, .ref (x 0)), (1, .int slot), (2, .ref (b1 0))]) [1, 2, 0] rfl ?_
      exact s_X4_save_50 d x a b c e slot (b1 0) p _ S T h t y _ E (fun pc lv v u h1 h2 h3 h4 => RET pc lv v u h1 h2 ⟨h3, _, h4⟩)
  · refine g_bipush E (-2) dX4_save_13 (by decide) ?_
    refine g_widen (k1 := R_X4_save.cells) (n1 := R_X4_save.slots) (ok_le rfl) (ok_le rfl) ?_
    exact RET 15 _ _ _ dX4_save_15 rfl ⟨by rw [r_X4_save, if_neg c0, if_neg c1], q, by rw [c_X4_save_ss, if_neg c0, if_neg c1]⟩
def rsT (slot : Int32) (ss : Nat → Option SS) : Option SS := if slot < 0 then none else (if slot < 2 then ss slot.toNatClampNeg else none)
def rsR (z : Option SS) : Int32 := match z with | none => -5 | some T => T.1 21
def rsS (S : SS) (z : Option SS) : SS := match z with | none => S | some T => T
def rsY (y : HS) (S : SS) (z : Option SS) : HS := match z with | none => y | some _ => c_X1_keep_y y S
def r_X4_restore (slot : Int32) (ss : Nat → Option SS) : Int32 := if slot < 0 then -2 else (if slot < 2 then rsR (ss slot.toNatClampNeg) else -2)
abbrev R_X4_restore : Room := { frames := 4, cells := 6, slots := 57, locals := 86 }
set_option maxHeartbeats 2000000 in
set_option maxRecDepth 100000 in
theorem t_X4_restore (d : gD) (x a b c e : Nat → Nat) (slot : Int32) (p q : Nat → Nat → Nat) (S T : SS) (h t : Nat → Int32) (y : HS) (ss : Nat → Option SS) (hy : y.1 < 6 ∧ y.2.1 ≤ 6) : gMi d yX4_restore cX4_restore 3 (some .int) R_X4_restore [.ref (x 0), .int slot] (XW d (x, a, b, c, e) p q S T h t y ss) (fun r u => r = r_X4_restore slot ss ∧ ∃ p', u = XW d (x, a, b, c, e) p' q (rsS S (rsT slot ss)) T h t (rsY y S (rsT slot ss)) ss) := by
  refine g_met_i RX4 rfl (by decide +kernel) (Nat.le_of_ble_eq_true rfl) [(0, .ref (x 0)), (1, .int slot)] rfl (fun X E RET => ?_)
  refine g_iload_n E 1 dX4_restore_0 rfl rfl ?_
  refine g_iflt E 13 dX4_restore_1 (by decide) (fun c0 => ?_) (fun c0 => ?_)
  · refine g_bipush E (-2) dX4_restore_13 (by decide) ?_
    refine g_widen (k1 := R_X4_restore.cells) (n1 := R_X4_restore.slots) (ok_le rfl) (ok_le rfl) ?_
    exact RET 15 _ _ _ dX4_restore_15 rfl ⟨by rw [r_X4_restore, if_pos c0], p, by rw [rsT, if_pos c0]; rfl⟩
  refine g_iload_n E 1 dX4_restore_4 rfl rfl ?_
  refine g_aload_n E 0 dX4_restore_5 rfl rfl ?_
  refine g_get E (ci := 4) inlX4 0 rfl rfl 4 (by decide) fl_X4_33 rfl (.ref (x 1)) rfl dX4_restore_6 ?_
  refine g_alen E 1 3 rfl rfl 2 rfl dX4_restore_9 ?_
  refine g_icmplt E 16 dX4_restore_10 (by decide) (fun c1 => ?_) (fun c1 => ?_)
  · obtain ⟨i, hi⟩ : ∃ i, slot.toNatClampNeg = i := ⟨_, rfl⟩
    have hsl : slot = nI i := by rw [← hi]; exact ix_eq c0
    have hi2 : i < 2 := by rw [← hi]; exact ix_lt (N := 2) c0 c1
    have hr : r_X4_restore slot ss = rsR (ss i) := by rw [r_X4_restore, if_neg c0, if_pos c1, hi]
    have hc : rsT slot ss = ss i := by rw [rsT, if_neg c0, if_pos c1, hi]
    rw [hr, hc] at RET
    refine g_aload_n E 0 dX4_restore_16 rfl rfl ?_
    refine g_get E (ci := 4) inlX4 0 rfl rfl 4 (by decide) fl_X4_33 rfl (.ref (x 1)) rfl dX4_restore_17 ?_
    refine g_iload_n E 1 dX4_restore_20 rfl rfl ?_
    refine g_aald E 1 rfl rfl i hsl hi2 (by decide) dX4_restore_21 ?_
    cases hT : ss i with
    | none =>
      rw [hT] at RET
      refine g_st (st' := [.null]) (by unfold qf; rw [hT]; rfl) ?_
      refine g_astore_nN E (lv' := [(2, .null), (0, .ref (x 0)), (1, .int slot)]) dX4_restore_22 rfl (by decide) rfl ?_
      refine g_aload_nN E 0 dX4_restore_23 rfl rfl ?_
      refine g_ifnonnullN E dX4_restore_24 ?_
      refine g_bipush E (-5) dX4_restore_27 (by decide) ?_
      refine g_widen (k1 := R_X4_restore.cells) (n1 := R_X4_restore.slots) (ok_le rfl) (ok_le rfl) ?_
      exact RET 29 _ _ _ dX4_restore_29 rfl ⟨rfl, p, rfl⟩
    | some T0 =>
      rw [hT] at RET
      refine g_st (st' := [.ref (q i 0)]) (by unfold qf; rw [hT]; rfl) ?_
      refine g_astore_n E (lv' := [(2, .ref (q i 0)), (0, .ref (x 0)), (1, .int slot)]) dX4_restore_22 rfl (by decide) rfl ?_
      refine g_aload_n E 0 dX4_restore_23 rfl rfl ?_
      refine g_ifnonnull E 30 dX4_restore_24 (by decide) ?_
      refine g_aload_n E 1 dX4_restore_30 rfl rfl ?_
      refine g_get E (ci := 4) inlX4 0 rfl rfl 3 (by decide) fl_X4_29 rfl (.ref (e 0)) rfl dX4_restore_31 ?_
      refine g_aload_n E 1 dX4_restore_34 rfl rfl ?_
      refine g_get E (ci := 4) inlX4 0 rfl rfl 0 (by decide) fl_X4_10 rfl (.ref (a 0)) rfl dX4_restore_35 ?_
      refine g_eq (ws' := XO d x a b c e (qf q ss) ++ (SK d a S ++ (SK d b T ++ (PK d c h t ++ (HP d e p y ++ PL d q ss 2))))) rfl ?_
      refine g_perm (ws' := (HP d e p y ++ SK d a S) ++ (XO d x a b c e (qf q ss) ++ (SK d b T ++ (PK d c h t ++ PL d q ss 2)))) px41 ?_
      refine g_callVv E (wr := XO d x a b c e (qf q ss) ++ (SK d b T ++ (PK d c h t ++ PL d q ss 2))) gc_X1_keep ml_X4_44 (t2_X1_keep d e a p y S hy.1 hy.2) rfl rfl (ci := 1) 0 rfl rfl rfl rfl (ok_le rfl) ⟨ok_le rfl, ok_le rfl, ok_le rfl, ok_le rfl⟩ rfl rfl dX4_restore_38 ?_
      rintro u ⟨p1, rfl⟩
      refine g_perm (ws' := XO d x a b c e (qf q ss) ++ (SK d a S ++ (SK d b T ++ (PK d c h t ++ (HP d e p1 (c_X1_keep_y y S) ++ PL d q ss 2))))) px41.symm ?_
      refine g_aload_n E 1 dX4_restore_41 rfl rfl ?_
      refine g_get E (ci := 4) inlX4 0 rfl rfl 0 (by decide) fl_X4_10 rfl (.ref (a 0)) rfl dX4_restore_42 ?_
      refine g_aload_n E 0 dX4_restore_45 rfl rfl ?_
      refine g_perm (ws' := (SK d a S ++ SK d (q i) T0) ++ (XO d x a b c e (qf q ss) ++ (SK d b T ++ (PK d c h t ++ (HP d e p1 (c_X1_keep_y y S) ++ PL d q (sup ss i none) 2))))) (pm_t (PL_take d q ss hT 2 hi2).symm).symm ?_
      refine g_callVvD E gc_X3_becomeLike ml_X4_115 (t2_X3_becomeLike d a (q i) S T0) rfl rfl (ci := 3) 4 rfl rfl rfl rfl (ok_le rfl) ⟨ok_le rfl, ok_le rfl, ok_le rfl, ok_le rfl⟩ rfl rfl dX4_restore_46 ?_
      refine g_perm (ws' := XO d x a b c e (qf q ss) ++ (SK d a T0 ++ (SK d b T ++ (PK d c h t ++ (HP d e p1 (c_X1_keep_y y S) ++ PL d q ss 2))))) (pm_t (PL_take d q ss hT 2 hi2).symm) ?_
      refine g_aload_n E 1 dX4_restore_49 rfl rfl ?_
      refine g_get E (ci := 4) inlX4 0 rfl rfl 0 (by decide) fl_X4_10 rfl (.ref (a 0)) rfl dX4_restore_50 ?_
      refine g_getN E (ci := 3) inlX3 6 rfl rfl 11 (by decide) (List.mem_of_getElem? (i := 3) rfl) rfl (.int (T0.1 21)) rfl dX4_restore_53 ?_
      exact RET 56 _ _ _ dX4_restore_56 rfl ⟨rfl, p1, rfl⟩
  · refine g_bipush E (-2) dX4_restore_13 (by decide) ?_
    refine g_widen (k1 := R_X4_restore.cells) (n1 := R_X4_restore.slots) (ok_le rfl) (ok_le rfl) ?_
    exact RET 15 _ _ _ dX4_restore_15 rfl ⟨by rw [r_X4_restore, if_neg c0, if_neg c1], p, by rw [rsT, if_neg c0, if_neg c1]; rfl⟩
end
