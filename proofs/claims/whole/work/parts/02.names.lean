def RX0 : String := "HeathFire$Crew"
def TX0 : u_T := fun k => match k with
  | 0 => ("HeathFire$Crew", "kinds", "[I", true)
  | 1 => ("HeathFire$Crew", "numbers", "[I", true)
  | 2 => ("HeathFire$Crew", "acts", "I", false)
  | 3 => ("HeathFire$Crew", "spent", "I", false)
  | 4 => ("HeathFire$Crew", "cell", "I", false)
  | 5 => ("HeathFire$Crew", "water", "I", false)
  | 6 => ("HeathFire$Crew", "heldUp", "I", false)
  | 7 => ("HeathFire$Crew", "cut", "I", false)
  | 8 => ("HeathFire$Crew", "doused", "I", false)
  | _ => ("HeathFire$Crew", "lost", "Z", false)
def tyX0 : Nat → FieldType := fun k => match k with
  | 0 => .array .int
  | 1 => .array .int
  | 2 => .int
  | 3 => .int
  | 4 => .int
  | 5 => .int
  | 6 => .int
  | 7 => .int
  | 8 => .int
  | _ => .boolean
abbrev wsX00 : List Cond := u_ws RX0 TX0 10
theorem nmX0 : ∀ a, a < 10 → ∀ b, b < 10 → a ≠ b → (TX0 a).2.1 ≠ (TX0 b).2.1 := by decide +kernel
theorem tyX0_ok : ∀ k, k < 10 → parseFieldDescriptor (TX0 k).2.2.1 = some (tyX0 k) := by decide +kernel
abbrev cX0_init : ByteArray := prog_2_method_1_code
def yX0_init : MethodName := ⟨RX0, "<init>", "()V"⟩
abbrev cX0_begin : ByteArray := prog_2_method_2_code
def yX0_begin : MethodName := ⟨RX0, "begin", "(I)V"⟩
abbrev cX0_copyFrom : ByteArray := prog_2_method_3_code
def yX0_copyFrom : MethodName := ⟨RX0, "copyFrom", "(LHeathFire$Crew;)V"⟩
abbrev cX0_addAct : ByteArray := prog_2_method_4_code
def yX0_addAct : MethodName := ⟨RX0, "addAct", "(II)V"⟩
abbrev cX0_dropPlan : ByteArray := prog_2_method_5_code
def yX0_dropPlan : MethodName := ⟨RX0, "dropPlan", "()V"⟩
abbrev cX0_act : ByteArray := prog_2_method_6_code
def yX0_act : MethodName := ⟨RX0, "act", "(LHeathFire$Scene;LHeathFire$Land;)V"⟩
abbrev cX0_isOver : ByteArray := prog_2_method_7_code
def yX0_isOver : MethodName := ⟨RX0, "isOver", "(LHeathFire$Scene;LHeathFire$Land;)Z"⟩
abbrev cX0_endAct : ByteArray := prog_2_method_8_code
def yX0_endAct : MethodName := ⟨RX0, "endAct", "()V"⟩
abbrev cX0_goOn : ByteArray := prog_2_method_9_code
def yX0_goOn : MethodName := ⟨RX0, "goOn", "(LHeathFire$Scene;LHeathFire$Land;)Z"⟩
abbrev cX0_cutOn : ByteArray := prog_2_method_10_code
def yX0_cutOn : MethodName := ⟨RX0, "cutOn", "(LHeathFire$Scene;)Z"⟩
abbrev cX0_douse : ByteArray := prog_2_method_11_code
def yX0_douse : MethodName := ⟨RX0, "douse", "(LHeathFire$Scene;LHeathFire$Land;)V"⟩
abbrev cX0_hottestAbout : ByteArray := prog_2_method_12_code
def yX0_hottestAbout : MethodName := ⟨RX0, "hottestAbout", "(LHeathFire$Scene;LHeathFire$Land;)I"⟩
abbrev cX0_fill : ByteArray := prog_2_method_13_code
def yX0_fill : MethodName := ⟨RX0, "fill", "(LHeathFire$Land;)V"⟩
def RX1 : String := "HeathFire$Fire"
def TX1 : u_T := fun k => match k with
  | 0 => ("HeathFire$Fire", "burn", "[I", true)
  | 1 => ("HeathFire$Fire", "given", "[I", true)
  | 2 => ("HeathFire$Fire", "drift", "[I", true)
  | 3 => ("HeathFire$Fire", "step", "I", false)
  | 4 => ("HeathFire$Fire", "seed", "I", false)
  | 5 => ("HeathFire$Fire", "wind", "I", false)
  | 6 => ("HeathFire$Fire", "strength", "I", false)
  | _ => ("HeathFire$Fire", "rain", "I", false)
def tyX1 : Nat → FieldType := fun k => match k with
  | 0 => .array .int
  | 1 => .array .int
  | 2 => .array .int
  | 3 => .int
  | 4 => .int
  | 5 => .int
  | 6 => .int
  | _ => .int
abbrev wsX10 : List Cond := u_ws RX1 TX1 8
theorem nmX1 : ∀ a, a < 8 → ∀ b, b < 8 → a ≠ b → (TX1 a).2.1 ≠ (TX1 b).2.1 := by decide +kernel
theorem tyX1_ok : ∀ k, k < 8 → parseFieldDescriptor (TX1 k).2.2.1 = some (tyX1 k) := by decide +kernel
abbrev cX1_init : ByteArray := prog_3_method_1_code
def yX1_init : MethodName := ⟨RX1, "<init>", "()V"⟩
abbrev cX1_setOut : ByteArray := prog_3_method_2_code
def yX1_setOut : MethodName := ⟨RX1, "setOut", "(LHeathFire$Weather;II)V"⟩
abbrev cX1_burnStrip : ByteArray := prog_3_method_3_code
def yX1_burnStrip : MethodName := ⟨RX1, "burnStrip", "(LHeathFire$Scene;LHeathFire$Land;I)V"⟩
abbrev cX1_giveHeat : ByteArray := prog_3_method_4_code
def yX1_giveHeat : MethodName := ⟨RX1, "giveHeat", "(LHeathFire$Land;III)I"⟩
abbrev cX1_throwEmber : ByteArray := prog_3_method_5_code
def yX1_throwEmber : MethodName := ⟨RX1, "throwEmber", "(LHeathFire$Scene;LHeathFire$Land;III)I"⟩
abbrev cX1_lot : ByteArray := prog_3_method_6_code
def yX1_lot : MethodName := ⟨RX1, "lot", "(II)I"⟩
abbrev cX1_settle : ByteArray := prog_3_method_7_code
def yX1_settle : MethodName := ⟨RX1, "settle", "(LHeathFire$Scene;LHeathFire$Land;)V"⟩
abbrev cX1_dryAndCatch : ByteArray := prog_3_method_8_code
def yX1_dryAndCatch : MethodName := ⟨RX1, "dryAndCatch", "(LHeathFire$Scene;LHeathFire$Land;I)V"⟩
abbrev cX1_burnDown : ByteArray := prog_3_method_9_code
def yX1_burnDown : MethodName := ⟨RX1, "burnDown", "(LHeathFire$Scene;I)V"⟩
abbrev cX1_blowStrip : ByteArray := prog_3_method_10_code
def yX1_blowStrip : MethodName := ⟨RX1, "blowStrip", "(LHeathFire$Scene;LHeathFire$Land;I)V"⟩
abbrev cX1_layDownSmoke : ByteArray := prog_3_method_11_code
def yX1_layDownSmoke : MethodName := ⟨RX1, "layDownSmoke", "(LHeathFire$Scene;LHeathFire$Land;)V"⟩
def RX2 : String := "HeathFire$Land"
def TX2 : u_T := fun k => match k with
  | 0 => ("HeathFire$Land", "ground", "[I", true)
  | 1 => ("HeathFire$Land", "fuel", "[I", true)
  | 2 => ("HeathFire$Land", "damp", "[I", true)
  | 3 => ("HeathFire$Land", "height", "[I", true)
  | 4 => ("HeathFire$Land", "rows", "I", false)
  | 5 => ("HeathFire$Land", "columns", "I", false)
  | 6 => ("HeathFire$Land", "cells", "I", false)
  | _ => ("HeathFire$Land", "age", "I", false)
def tyX2 : Nat → FieldType := fun k => match k with
  | 0 => .array .int
  | 1 => .array .int
  | 2 => .array .int
  | 3 => .array .int
  | 4 => .int
  | 5 => .int
  | 6 => .int
  | _ => .int
abbrev wsX20 : List Cond := u_ws RX2 TX2 8
theorem nmX2 : ∀ a, a < 8 → ∀ b, b < 8 → a ≠ b → (TX2 a).2.1 ≠ (TX2 b).2.1 := by decide +kernel
theorem tyX2_ok : ∀ k, k < 8 → parseFieldDescriptor (TX2 k).2.2.1 = some (tyX2 k) := by decide +kernel
abbrev cX2_init : ByteArray := prog_4_method_1_code
def yX2_init : MethodName := ⟨RX2, "<init>", "()V"⟩
abbrev cX2_has : ByteArray := prog_4_method_2_code
def yX2_has : MethodName := ⟨RX2, "has", "(I)Z"⟩
abbrev cX2_layOut : ByteArray := prog_4_method_3_code
def yX2_layOut : MethodName := ⟨RX2, "layOut", "(II)V"⟩
abbrev cX2_tell : ByteArray := prog_4_method_4_code
def yX2_tell : MethodName := ⟨RX2, "tell", "(IIIII)V"⟩
abbrev cX2_off : ByteArray := prog_4_method_5_code
def yX2_off : MethodName := ⟨RX2, "off", "(III)I"⟩
abbrev cX2_nearer : ByteArray := prog_4_method_6_code
def yX2_nearer : MethodName := ⟨RX2, "nearer", "(II)I"⟩
def RX3 : String := "HeathFire$Lights"
def TX3 : u_T := fun k => match k with
  | 0 => ("HeathFire$Lights", "cells", "[I", true)
  | 1 => ("HeathFire$Lights", "steps", "[I", true)
  | _ => ("HeathFire$Lights", "count", "I", false)
def tyX3 : Nat → FieldType := fun k => match k with
  | 0 => .array .int
  | 1 => .array .int
  | _ => .int
abbrev wsX30 : List Cond := u_ws RX3 TX3 3
theorem nmX3 : ∀ a, a < 3 → ∀ b, b < 3 → a ≠ b → (TX3 a).2.1 ≠ (TX3 b).2.1 := by decide +kernel
theorem tyX3_ok : ∀ k, k < 3 → parseFieldDescriptor (TX3 k).2.2.1 = some (tyX3 k) := by decide +kernel
abbrev cX3_init : ByteArray := prog_5_method_1_code
def yX3_init : MethodName := ⟨RX3, "<init>", "()V"⟩
abbrev cX3_add : ByteArray := prog_5_method_2_code
def yX3_add : MethodName := ⟨RX3, "add", "(II)V"⟩
abbrev cX3_kindle : ByteArray := prog_5_method_3_code
def yX3_kindle : MethodName := ⟨RX3, "kindle", "(LHeathFire$Scene;)V"⟩
def RX4 : String := "HeathFire$Scene"
def TX4 : u_T := fun k => match k with
  | 0 => ("HeathFire$Scene", "state", "[I", true)
  | 1 => ("HeathFire$Scene", "fuel", "[I", true)
  | 2 => ("HeathFire$Scene", "damp", "[I", true)
  | 3 => ("HeathFire$Scene", "heat", "[I", true)
  | 4 => ("HeathFire$Scene", "smoke", "[I", true)
  | 5 => ("HeathFire$Scene", "arrival", "[I", true)
  | 6 => ("HeathFire$Scene", "crews", "[LHeathFire$Crew;", true)
  | 7 => ("HeathFire$Scene", "strips", "LHeathFire$Strips;", true)
  | 8 => ("HeathFire$Scene", "crewCount", "I", false)
  | 9 => ("HeathFire$Scene", "steps", "I", false)
  | 10 => ("HeathFire$Scene", "embers", "I", false)
  | 11 => ("HeathFire$Scene", "burnt", "I", false)
  | 12 => ("HeathFire$Scene", "passed", "I", false)
  | 13 => ("HeathFire$Scene", "splits", "I", false)
  | _ => ("HeathFire$Scene", "joins", "I", false)
def tyX4 : Nat → FieldType := fun k => match k with
  | 0 => .array .int
  | 1 => .array .int
  | 2 => .array .int
  | 3 => .array .int
  | 4 => .array .int
  | 5 => .array .int
  | 6 => .array (.object "HeathFire$Crew")
  | 7 => .object "HeathFire$Strips"
  | 8 => .int
  | 9 => .int
  | 10 => .int
  | 11 => .int
  | 12 => .int
  | 13 => .int
  | _ => .int
abbrev wsX40 : List Cond := u_ws RX4 TX4 15
theorem nmX4 : ∀ a, a < 15 → ∀ b, b < 15 → a ≠ b → (TX4 a).2.1 ≠ (TX4 b).2.1 := by decide +kernel
theorem tyX4_ok : ∀ k, k < 15 → parseFieldDescriptor (TX4 k).2.2.1 = some (tyX4 k) := by decide +kernel
abbrev cX4_init : ByteArray := prog_6_method_1_code
def yX4_init : MethodName := ⟨RX4, "<init>", "()V"⟩
abbrev cX4_begin : ByteArray := prog_6_method_2_code
def yX4_begin : MethodName := ⟨RX4, "begin", "(LHeathFire$Land;)V"⟩
abbrev cX4_beginCell : ByteArray := prog_6_method_3_code
def yX4_beginCell : MethodName := ⟨RX4, "beginCell", "(LHeathFire$Land;I)V"⟩
abbrev cX4_copyFrom : ByteArray := prog_6_method_4_code
def yX4_copyFrom : MethodName := ⟨RX4, "copyFrom", "(LHeathFire$Scene;)V"⟩
abbrev cX4_isAlikeAt : ByteArray := prog_6_method_5_code
def yX4_isAlikeAt : MethodName := ⟨RX4, "isAlikeAt", "(ILHeathFire$Scene;)Z"⟩
abbrev cX4_kindle : ByteArray := prog_6_method_6_code
def yX4_kindle : MethodName := ⟨RX4, "kindle", "(I)V"⟩
abbrev cX4_loseCrews : ByteArray := prog_6_method_7_code
def yX4_loseCrews : MethodName := ⟨RX4, "loseCrews", "()V"⟩
abbrev cX4_balance : ByteArray := prog_6_method_8_code
def yX4_balance : MethodName := ⟨RX4, "balance", "()V"⟩
def RX5 : String := "HeathFire$Strips"
def TX5 : u_T := fun k => match k with
  | 0 => ("HeathFire$Strips", "first", "[I", true)
  | 1 => ("HeathFire$Strips", "last", "[I", true)
  | 2 => ("HeathFire$Strips", "work", "[I", true)
  | _ => ("HeathFire$Strips", "count", "I", false)
def tyX5 : Nat → FieldType := fun k => match k with
  | 0 => .array .int
  | 1 => .array .int
  | 2 => .array .int
  | _ => .int
abbrev wsX50 : List Cond := u_ws RX5 TX5 4
theorem nmX5 : ∀ a, a < 4 → ∀ b, b < 4 → a ≠ b → (TX5 a).2.1 ≠ (TX5 b).2.1 := by decide +kernel
theorem tyX5_ok : ∀ k, k < 4 → parseFieldDescriptor (TX5 k).2.2.1 = some (tyX5 k) := by decide +kernel
abbrev cX5_init : ByteArray := prog_7_method_1_code
def yX5_init : MethodName := ⟨RX5, "<init>", "()V"⟩
abbrev cX5_copyFrom : ByteArray := prog_7_method_2_code
def yX5_copyFrom : MethodName := ⟨RX5, "copyFrom", "(LHeathFire$Strips;)V"⟩
abbrev cX5_rowsOf : ByteArray := prog_7_method_3_code
def yX5_rowsOf : MethodName := ⟨RX5, "rowsOf", "(I)I"⟩
abbrev cX5_part : ByteArray := prog_7_method_4_code
def yX5_part : MethodName := ⟨RX5, "part", "(II)V"⟩
abbrev cX5_beginWork : ByteArray := prog_7_method_5_code
def yX5_beginWork : MethodName := ⟨RX5, "beginWork", "(I)V"⟩
abbrev cX5_splitBusiest : ByteArray := prog_7_method_6_code
def yX5_splitBusiest : MethodName := ⟨RX5, "splitBusiest", "()Z"⟩
abbrev cX5_joinIdle : ByteArray := prog_7_method_7_code
def yX5_joinIdle : MethodName := ⟨RX5, "joinIdle", "()Z"⟩
abbrev cX5_meanWork : ByteArray := prog_7_method_8_code
def yX5_meanWork : MethodName := ⟨RX5, "meanWork", "()I"⟩
abbrev cX5_split : ByteArray := prog_7_method_9_code
def yX5_split : MethodName := ⟨RX5, "split", "(I)V"⟩
abbrev cX5_join : ByteArray := prog_7_method_10_code
def yX5_join : MethodName := ⟨RX5, "join", "(I)V"⟩
abbrev cX5_move : ByteArray := prog_7_method_11_code
def yX5_move : MethodName := ⟨RX5, "move", "(II)V"⟩
def RX6 : String := "HeathFire$Weather"
def TX6 : u_T := fun k => match k with
  | 0 => ("HeathFire$Weather", "from", "[I", true)
  | 1 => ("HeathFire$Weather", "values", "[I", true)
  | _ => ("HeathFire$Weather", "count", "I", false)
def tyX6 : Nat → FieldType := fun k => match k with
  | 0 => .array .int
  | 1 => .array .int
  | _ => .int
abbrev wsX60 : List Cond := u_ws RX6 TX6 3
theorem nmX6 : ∀ a, a < 3 → ∀ b, b < 3 → a ≠ b → (TX6 a).2.1 ≠ (TX6 b).2.1 := by decide +kernel
theorem tyX6_ok : ∀ k, k < 3 → parseFieldDescriptor (TX6 k).2.2.1 = some (tyX6 k) := by decide +kernel
abbrev cX6_init : ByteArray := prog_8_method_1_code
def yX6_init : MethodName := ⟨RX6, "<init>", "()V"⟩
abbrev cX6_add : ByteArray := prog_8_method_2_code
def yX6_add : MethodName := ⟨RX6, "add", "(IIII)V"⟩
abbrev cX6_entryOf : ByteArray := prog_8_method_3_code
def yX6_entryOf : MethodName := ⟨RX6, "entryOf", "(I)I"⟩
abbrev cX6_read : ByteArray := prog_8_method_4_code
def yX6_read : MethodName := ⟨RX6, "read", "(II)I"⟩
def RX7 : String := "HeathFire"
def TX7 : u_T := fun k => match k with
  | 0 => ("HeathFire", "land", "LHeathFire$Land;", true)
  | 1 => ("HeathFire", "weather", "LHeathFire$Weather;", true)
  | 2 => ("HeathFire", "lights", "LHeathFire$Lights;", true)
  | 3 => ("HeathFire", "fire", "LHeathFire$Fire;", true)
  | 4 => ("HeathFire", "now", "LHeathFire$Scene;", true)
  | 5 => ("HeathFire", "trial", "LHeathFire$Scene;", true)
  | 6 => ("HeathFire", "kept", "[LHeathFire$Scene;", true)
  | 7 => ("HeathFire", "keptAge", "[I", true)
  | 8 => ("HeathFire", "seed", "I", false)
  | _ => ("HeathFire", "balancing", "Z", false)
def tyX7 : Nat → FieldType := fun k => match k with
  | 0 => .object "HeathFire$Land"
  | 1 => .object "HeathFire$Weather"
  | 2 => .object "HeathFire$Lights"
  | 3 => .object "HeathFire$Fire"
  | 4 => .object "HeathFire$Scene"
  | 5 => .object "HeathFire$Scene"
  | 6 => .array (.object "HeathFire$Scene")
  | 7 => .array .int
  | 8 => .int
  | _ => .boolean
abbrev wsX70 : List Cond := u_ws RX7 TX7 10
theorem nmX7 : ∀ a, a < 10 → ∀ b, b < 10 → a ≠ b → (TX7 a).2.1 ≠ (TX7 b).2.1 := by decide +kernel
theorem tyX7_ok : ∀ k, k < 10 → parseFieldDescriptor (TX7 k).2.2.1 = some (tyX7 k) := by decide +kernel
abbrev cX7_init : ByteArray := prog_1_method_1_code
def yX7_init : MethodName := ⟨RX7, "<init>", "()V"⟩
abbrev cX7_grid : ByteArray := prog_1_method_2_code
def yX7_grid : MethodName := ⟨RX7, "grid", "(II)I"⟩
abbrev cX7_cell : ByteArray := prog_1_method_3_code
def yX7_cell : MethodName := ⟨RX7, "cell", "(IIIII)I"⟩
abbrev cX7_weather : ByteArray := prog_1_method_4_code
def yX7_weather : MethodName := ⟨RX7, "weather", "(IIII)I"⟩
abbrev cX7_seed : ByteArray := prog_1_method_5_code
def yX7_seed : MethodName := ⟨RX7, "seed", "(I)I"⟩
abbrev cX7_light : ByteArray := prog_1_method_6_code
def yX7_light : MethodName := ⟨RX7, "light", "(II)I"⟩
abbrev cX7_clear : ByteArray := prog_1_method_7_code
def yX7_clear : MethodName := ⟨RX7, "clear", "()I"⟩
abbrev cX7_step : ByteArray := prog_1_method_8_code
def yX7_step : MethodName := ⟨RX7, "step", "(I)I"⟩
abbrev cX7_about : ByteArray := prog_1_method_9_code
def yX7_about : MethodName := ⟨RX7, "about", "(II)I"⟩
abbrev cX7_many : ByteArray := prog_1_method_10_code
def yX7_many : MethodName := ⟨RX7, "many", "(I)I"⟩
abbrev cX7_told : ByteArray := prog_1_method_11_code
def yX7_told : MethodName := ⟨RX7, "told", "(I)I"⟩
abbrev cX7_sky : ByteArray := prog_1_method_12_code
def yX7_sky : MethodName := ⟨RX7, "sky", "(II)I"⟩
abbrev cX7_front : ByteArray := prog_1_method_13_code
def yX7_front : MethodName := ⟨RX7, "front", "(I)I"⟩
abbrev cX7_crew : ByteArray := prog_1_method_14_code
def yX7_crew : MethodName := ⟨RX7, "crew", "(I)I"⟩
abbrev cX7_plan : ByteArray := prog_1_method_15_code
def yX7_plan : MethodName := ⟨RX7, "plan", "(III)I"⟩
abbrev cX7_halt : ByteArray := prog_1_method_16_code
def yX7_halt : MethodName := ⟨RX7, "halt", "(I)I"⟩
abbrev cX7_ofCrew : ByteArray := prog_1_method_17_code
def yX7_ofCrew : MethodName := ⟨RX7, "ofCrew", "(II)I"⟩
abbrev cX7_strips : ByteArray := prog_1_method_18_code
def yX7_strips : MethodName := ⟨RX7, "strips", "(I)I"⟩
abbrev cX7_balanced : ByteArray := prog_1_method_19_code
def yX7_balanced : MethodName := ⟨RX7, "balanced", "(Z)I"⟩
abbrev cX7_strip : ByteArray := prog_1_method_20_code
def yX7_strip : MethodName := ⟨RX7, "strip", "(II)I"⟩
abbrev cX7_keep : ByteArray := prog_1_method_21_code
def yX7_keep : MethodName := ⟨RX7, "keep", "(I)I"⟩
abbrev cX7_back : ByteArray := prog_1_method_22_code
def yX7_back : MethodName := ⟨RX7, "back", "(I)I"⟩
abbrev cX7_differs : ByteArray := prog_1_method_23_code
def yX7_differs : MethodName := ⟨RX7, "differs", "(I)I"⟩
abbrev cX7_ahead : ByteArray := prog_1_method_24_code
def yX7_ahead : MethodName := ⟨RX7, "ahead", "(II)I"⟩
abbrev cX7_isWithin : ByteArray := prog_1_method_25_code
def yX7_isWithin : MethodName := ⟨RX7, "isWithin", "(III)Z"⟩
abbrev cX7_isPlace : ByteArray := prog_1_method_26_code
def yX7_isPlace : MethodName := ⟨RX7, "isPlace", "(I)Z"⟩
abbrev cX7_sum : ByteArray := prog_1_method_27_code
def yX7_sum : MethodName := ⟨RX7, "sum", "([II)I"⟩
abbrev cX7_hasCrew : ByteArray := prog_1_method_28_code
def yX7_hasCrew : MethodName := ⟨RX7, "hasCrew", "(I)Z"⟩
abbrev cX7_hasAlightNeighbour : ByteArray := prog_1_method_29_code
def yX7_hasAlightNeighbour : MethodName := ⟨RX7, "hasAlightNeighbour", "(I)Z"⟩
abbrev cX7_work : ByteArray := prog_1_method_30_code
def yX7_work : MethodName := ⟨RX7, "work", "(LHeathFire$Scene;)V"⟩
def RX8 : String := "HeathFireModel"
def TX8 : u_T := fun k => match k with
  | 0 => ("HeathFireModel", "rows", "I", false)
  | 1 => ("HeathFireModel", "columns", "I", false)
  | 2 => ("HeathFireModel", "cells", "I", false)
  | 3 => ("HeathFireModel", "ground", "[I", true)
  | 4 => ("HeathFireModel", "height", "[I", true)
  | 5 => ("HeathFireModel", "firstFuel", "[I", true)
  | 6 => ("HeathFireModel", "firstDamp", "[I", true)
  | 7 => ("HeathFireModel", "skies", "I", false)
  | 8 => ("HeathFireModel", "skyStep", "[I", true)
  | 9 => ("HeathFireModel", "skyWind", "[I", true)
  | 10 => ("HeathFireModel", "skyStrength", "[I", true)
  | 11 => ("HeathFireModel", "skyRain", "[I", true)
  | 12 => ("HeathFireModel", "seed", "I", false)
  | 13 => ("HeathFireModel", "lights", "I", false)
  | 14 => ("HeathFireModel", "lightCell", "[I", true)
  | 15 => ("HeathFireModel", "lightStep", "[I", true)
  | 16 => ("HeathFireModel", "isBalanced", "Z", false)
  | 17 => ("HeathFireModel", "now", "[I", true)
  | 18 => ("HeathFireModel", "kept", "[I", true)
  | 19 => ("HeathFireModel", "keptAt", "[I", true)
  | 20 => ("HeathFireModel", "changes", "I", false)
  | 21 => ("HeathFireModel", "burn", "[I", true)
  | 22 => ("HeathFireModel", "given", "[I", true)
  | _ => ("HeathFireModel", "arrives", "[I", true)
def tyX8 : Nat → FieldType := fun k => match k with
  | 0 => .int
  | 1 => .int
  | 2 => .int
  | 3 => .array .int
  | 4 => .array .int
  | 5 => .array .int
  | 6 => .array .int
  | 7 => .int
  | 8 => .array .int
  | 9 => .array .int
  | 10 => .array .int
  | 11 => .array .int
  | 12 => .int
  | 13 => .int
  | 14 => .array .int
  | 15 => .array .int
  | 16 => .boolean
  | 17 => .array .int
  | 18 => .array .int
  | 19 => .array .int
  | 20 => .int
  | 21 => .array .int
  | 22 => .array .int
  | _ => .array .int
abbrev wsX80 : List Cond := u_ws RX8 TX8 24
theorem nmX8 : ∀ a, a < 24 → ∀ b, b < 24 → a ≠ b → (TX8 a).2.1 ≠ (TX8 b).2.1 := by decide +kernel
theorem tyX8_ok : ∀ k, k < 24 → parseFieldDescriptor (TX8 k).2.2.1 = some (tyX8 k) := by decide +kernel
abbrev cX8_init : ByteArray := prog_10_method_1_code
def yX8_init : MethodName := ⟨RX8, "<init>", "()V"⟩
abbrev cX8_in : ByteArray := prog_10_method_2_code
def yX8_in : MethodName := ⟨RX8, "in", "(III)Z"⟩
abbrev cX8_isCell : ByteArray := prog_10_method_3_code
def yX8_isCell : MethodName := ⟨RX8, "isCell", "(I)Z"⟩
abbrev cX8_begin : ByteArray := prog_10_method_4_code
def yX8_begin : MethodName := ⟨RX8, "begin", "()V"⟩
abbrev cX8_grid : ByteArray := prog_10_method_5_code
def yX8_grid : MethodName := ⟨RX8, "grid", "(II)I"⟩
abbrev cX8_cell : ByteArray := prog_10_method_6_code
def yX8_cell : MethodName := ⟨RX8, "cell", "(IIIII)I"⟩
abbrev cX8_weather : ByteArray := prog_10_method_7_code
def yX8_weather : MethodName := ⟨RX8, "weather", "(IIII)I"⟩
abbrev cX8_seed : ByteArray := prog_10_method_8_code
def yX8_seed : MethodName := ⟨RX8, "seed", "(I)I"⟩
abbrev cX8_light : ByteArray := prog_10_method_9_code
def yX8_light : MethodName := ⟨RX8, "light", "(II)I"⟩
abbrev cX8_clear : ByteArray := prog_10_method_10_code
def yX8_clear : MethodName := ⟨RX8, "clear", "()I"⟩
abbrev cX8_skyOf : ByteArray := prog_10_method_11_code
def yX8_skyOf : MethodName := ⟨RX8, "skyOf", "(I)I"⟩
abbrev cX8_sky : ByteArray := prog_10_method_12_code
def yX8_sky : MethodName := ⟨RX8, "sky", "(II)I"⟩
abbrev cX8_lot : ByteArray := prog_10_method_13_code
def yX8_lot : MethodName := ⟨RX8, "lot", "(III)I"⟩
abbrev cX8_down : ByteArray := prog_10_method_14_code
def yX8_down : MethodName := ⟨RX8, "down", "(I)I"⟩
abbrev cX8_right : ByteArray := prog_10_method_15_code
def yX8_right : MethodName := ⟨RX8, "right", "(I)I"⟩
abbrev cX8_off : ByteArray := prog_10_method_16_code
def yX8_off : MethodName := ⟨RX8, "off", "(III)I"⟩
abbrev cX8_rate : ByteArray := prog_10_method_17_code
def yX8_rate : MethodName := ⟨RX8, "rate", "(I)I"⟩
abbrev cX8_catches : ByteArray := prog_10_method_18_code
def yX8_catches : MethodName := ⟨RX8, "catches", "(I)I"⟩
abbrev cX8_stripOf : ByteArray := prog_10_method_19_code
def yX8_stripOf : MethodName := ⟨RX8, "stripOf", "(I)I"⟩
abbrev cX8_passes : ByteArray := prog_10_method_20_code
def yX8_passes : MethodName := ⟨RX8, "passes", "(II)V"⟩
abbrev cX8_kindle : ByteArray := prog_10_method_21_code
def yX8_kindle : MethodName := ⟨RX8, "kindle", "(I)V"⟩
abbrev cX8_windOf : ByteArray := prog_10_method_22_code
def yX8_windOf : MethodName := ⟨RX8, "windOf", "(III)I"⟩
abbrev cX8_burns : ByteArray := prog_10_method_23_code
def yX8_burns : MethodName := ⟨RX8, "burns", "(III)V"⟩
abbrev cX8_turns : ByteArray := prog_10_method_24_code
def yX8_turns : MethodName := ⟨RX8, "turns", "(II)V"⟩
abbrev cX8_smokes : ByteArray := prog_10_method_25_code
def yX8_smokes : MethodName := ⟨RX8, "smokes", "(II)V"⟩
abbrev cX8_step1 : ByteArray := prog_10_method_26_code
def yX8_step1 : MethodName := ⟨RX8, "step1", "()V"⟩
abbrev cX8_step : ByteArray := prog_10_method_27_code
def yX8_step : MethodName := ⟨RX8, "step", "(I)I"⟩
abbrev cX8_crew : ByteArray := prog_10_method_28_code
def yX8_crew : MethodName := ⟨RX8, "crew", "(I)I"⟩
abbrev cX8_isCrew : ByteArray := prog_10_method_29_code
def yX8_isCrew : MethodName := ⟨RX8, "isCrew", "(I)Z"⟩
abbrev cX8_plan : ByteArray := prog_10_method_30_code
def yX8_plan : MethodName := ⟨RX8, "plan", "(III)I"⟩
abbrev cX8_halt : ByteArray := prog_10_method_31_code
def yX8_halt : MethodName := ⟨RX8, "halt", "(I)I"⟩
abbrev cX8_over : ByteArray := prog_10_method_32_code
def yX8_over : MethodName := ⟨RX8, "over", "(I)V"⟩
abbrev cX8_goes : ByteArray := prog_10_method_33_code
def yX8_goes : MethodName := ⟨RX8, "goes", "(II)V"⟩
abbrev cX8_douses : ByteArray := prog_10_method_34_code
def yX8_douses : MethodName := ⟨RX8, "douses", "(I)V"⟩
abbrev cX8_isAbout : ByteArray := prog_10_method_35_code
def yX8_isAbout : MethodName := ⟨RX8, "isAbout", "(II)Z"⟩
abbrev cX8_fills : ByteArray := prog_10_method_36_code
def yX8_fills : MethodName := ⟨RX8, "fills", "(I)V"⟩
abbrev cX8_acts : ByteArray := prog_10_method_37_code
def yX8_acts : MethodName := ⟨RX8, "acts", "(I)V"⟩
abbrev cX8_ofCrew : ByteArray := prog_10_method_38_code
def yX8_ofCrew : MethodName := ⟨RX8, "ofCrew", "(II)I"⟩
abbrev cX8_strips : ByteArray := prog_10_method_39_code
def yX8_strips : MethodName := ⟨RX8, "strips", "(I)I"⟩
abbrev cX8_balanced : ByteArray := prog_10_method_40_code
def yX8_balanced : MethodName := ⟨RX8, "balanced", "(Z)I"⟩
abbrev cX8_balance : ByteArray := prog_10_method_41_code
def yX8_balance : MethodName := ⟨RX8, "balance", "()V"⟩
abbrev cX8_strip : ByteArray := prog_10_method_42_code
def yX8_strip : MethodName := ⟨RX8, "strip", "(II)I"⟩
abbrev cX8_about : ByteArray := prog_10_method_43_code
def yX8_about : MethodName := ⟨RX8, "about", "(II)I"⟩
abbrev cX8_many : ByteArray := prog_10_method_44_code
def yX8_many : MethodName := ⟨RX8, "many", "(I)I"⟩
abbrev cX8_sum : ByteArray := prog_10_method_45_code
def yX8_sum : MethodName := ⟨RX8, "sum", "(I)I"⟩
abbrev cX8_told : ByteArray := prog_10_method_46_code
def yX8_told : MethodName := ⟨RX8, "told", "(I)I"⟩
abbrev cX8_front : ByteArray := prog_10_method_47_code
def yX8_front : MethodName := ⟨RX8, "front", "(I)I"⟩
abbrev cX8_save : ByteArray := prog_10_method_48_code
def yX8_save : MethodName := ⟨RX8, "save", "(I)V"⟩
abbrev cX8_load : ByteArray := prog_10_method_49_code
def yX8_load : MethodName := ⟨RX8, "load", "(I)V"⟩
abbrev cX8_keep : ByteArray := prog_10_method_50_code
def yX8_keep : MethodName := ⟨RX8, "keep", "(I)I"⟩
abbrev cX8_bars : ByteArray := prog_10_method_51_code
def yX8_bars : MethodName := ⟨RX8, "bars", "(I)I"⟩
abbrev cX8_back : ByteArray := prog_10_method_52_code
def yX8_back : MethodName := ⟨RX8, "back", "(I)I"⟩
abbrev cX8_differs : ByteArray := prog_10_method_53_code
def yX8_differs : MethodName := ⟨RX8, "differs", "(I)I"⟩
abbrev cX8_ahead : ByteArray := prog_10_method_54_code
def yX8_ahead : MethodName := ⟨RX8, "ahead", "(II)I"⟩
def RJ6 : String := "java/lang/Integer"
def TJ6 : u_T := fun k => match k with
  | _ => ("", "", "", false)
def tyJ6 : Nat → FieldType := fun k => match k with
  | _ => .int
abbrev wsJ60 : List Cond := u_ws RJ6 TJ6 0
abbrev cJ6_compare_7cf53 : ByteArray := prog_11_method_40_code
def yJ6_compare_7cf53 : MethodName := ⟨RJ6, "compare", "(II)I"⟩
def RJ9 : String := "java/lang/Math"
def TJ9 : u_T := fun k => match k with
  | _ => ("", "", "", false)
def tyJ9 : Nat → FieldType := fun k => match k with
  | _ => .int
abbrev wsJ90 : List Cond := u_ws RJ9 TJ9 0
abbrev cJ9_max_7cf53 : ByteArray := prog_12_method_65_code
def yJ9_max_7cf53 : MethodName := ⟨RJ9, "max", "(II)I"⟩
abbrev cJ9_min_7cf53 : ByteArray := prog_12_method_69_code
def yJ9_min_7cf53 : MethodName := ⟨RJ9, "min", "(II)I"⟩
def RJ10 : String := "java/lang/System"
def TJ10 : u_T := fun k => match k with
  | _ => ("", "", "", false)
def tyJ10 : Nat → FieldType := fun k => match k with
  | _ => .int
abbrev wsJ100 : List Cond := u_ws RJ10 TJ10 0
def RJ7 : String := "java/util/Arrays"
def TJ7 : u_T := fun k => match k with
  | _ => ("", "", "", false)
def tyJ7 : Nat → FieldType := fun k => match k with
  | _ => .int
abbrev wsJ70 : List Cond := u_ws RJ7 TJ7 0
abbrev cJ7_fill_53178 : ByteArray := prog_14_method_103_code
def yJ7_fill_53178 : MethodName := ⟨RJ7, "fill", "([II)V"⟩
def RL : String := "HeathFireLaw"
abbrev cL_law : ByteArray := code
def yL_law : MethodName := ⟨RL, "law", "([I)Z"⟩
abbrev vwCl : List vw_C := [(RX0, TX0, 10), (RX1, TX1, 8), (RX2, TX2, 8), (RX3, TX3, 3), (RX4, TX4, 15), (RX5, TX5, 4), (RX6, TX6, 3), (RX7, TX7, 10), (RX8, TX8, 24)]
def wtb : List Cond := lw_tbl.filter goodWord
theorem wtb_in {w : Cond} (h : w ∈ wtb) : w ∈ lw_tbl := (List.mem_filter.mp h).1
theorem wtb_mem {w : Cond} (i : Nat) (h : tables_1[i]? = some w) (hg : goodWord w = true) : w ∈ wtb := List.mem_filter.mpr ⟨List.mem_append_right _ (List.mem_of_getElem? h), hg⟩
theorem wtb_memL {w : Cond} (i : Nat) (h : lw_tbl[i]? = some w) (hg : goodWord w = true) : w ∈ wtb := List.mem_filter.mpr ⟨List.mem_of_getElem? h, hg⟩
theorem wtb_good {y : MethodName} {cc : ByteArray} {n : Nat} {r : Option FieldType} (h : Cond.code y cc n r ∈ wtb) : GoodIn wtb (.code y cc n r :: wtb) := by
  intro w hw
  have hw2 : w ∈ wtb := by
    rcases List.mem_cons.mp hw with e | e
    · rw [e]; exact h
    · exact e
  exact ⟨hw2, good_of_word (List.mem_filter.mp hw2).2⟩
set_option maxRecDepth 20000 in
theorem iwX0 : ∀ w ∈ wsX00, w ∈ wtb := by
  have h : (wsX00.all fun w => decide (w ∈ tables_1) && goodWord w) = true := by decide +kernel
  intro w hw
  have h2 := List.all_eq_true.mp h w hw
  rw [Bool.and_eq_true] at h2
  exact List.mem_filter.mpr ⟨List.mem_append_right _ (of_decide_eq_true h2.1), h2.2⟩
set_option maxRecDepth 20000 in
theorem iwX1 : ∀ w ∈ wsX10, w ∈ wtb := by
  have h : (wsX10.all fun w => decide (w ∈ tables_1) && goodWord w) = true := by decide +kernel
  intro w hw
  have h2 := List.all_eq_true.mp h w hw
  rw [Bool.and_eq_true] at h2
  exact List.mem_filter.mpr ⟨List.mem_append_right _ (of_decide_eq_true h2.1), h2.2⟩
set_option maxRecDepth 20000 in
theorem iwX2 : ∀ w ∈ wsX20, w ∈ wtb := by
  have h : (wsX20.all fun w => decide (w ∈ tables_1) && goodWord w) = true := by decide +kernel
  intro w hw
  have h2 := List.all_eq_true.mp h w hw
  rw [Bool.and_eq_true] at h2
  exact List.mem_filter.mpr ⟨List.mem_append_right _ (of_decide_eq_true h2.1), h2.2⟩
set_option maxRecDepth 20000 in
theorem iwX3 : ∀ w ∈ wsX30, w ∈ wtb := by
  have h : (wsX30.all fun w => decide (w ∈ tables_1) && goodWord w) = true := by decide +kernel
  intro w hw
  have h2 := List.all_eq_true.mp h w hw
  rw [Bool.and_eq_true] at h2
  exact List.mem_filter.mpr ⟨List.mem_append_right _ (of_decide_eq_true h2.1), h2.2⟩
set_option maxRecDepth 20000 in
theorem iwX4 : ∀ w ∈ wsX40, w ∈ wtb := by
  have h : (wsX40.all fun w => decide (w ∈ tables_1) && goodWord w) = true := by decide +kernel
  intro w hw
  have h2 := List.all_eq_true.mp h w hw
  rw [Bool.and_eq_true] at h2
  exact List.mem_filter.mpr ⟨List.mem_append_right _ (of_decide_eq_true h2.1), h2.2⟩
set_option maxRecDepth 20000 in
theorem iwX5 : ∀ w ∈ wsX50, w ∈ wtb := by
  have h : (wsX50.all fun w => decide (w ∈ tables_1) && goodWord w) = true := by decide +kernel
  intro w hw
  have h2 := List.all_eq_true.mp h w hw
  rw [Bool.and_eq_true] at h2
  exact List.mem_filter.mpr ⟨List.mem_append_right _ (of_decide_eq_true h2.1), h2.2⟩
set_option maxRecDepth 20000 in
theorem iwX6 : ∀ w ∈ wsX60, w ∈ wtb := by
  have h : (wsX60.all fun w => decide (w ∈ tables_1) && goodWord w) = true := by decide +kernel
  intro w hw
  have h2 := List.all_eq_true.mp h w hw
  rw [Bool.and_eq_true] at h2
  exact List.mem_filter.mpr ⟨List.mem_append_right _ (of_decide_eq_true h2.1), h2.2⟩
set_option maxRecDepth 20000 in
theorem iwX7 : ∀ w ∈ wsX70, w ∈ wtb := by
  have h : (wsX70.all fun w => decide (w ∈ tables_1) && goodWord w) = true := by decide +kernel
  intro w hw
  have h2 := List.all_eq_true.mp h w hw
  rw [Bool.and_eq_true] at h2
  exact List.mem_filter.mpr ⟨List.mem_append_right _ (of_decide_eq_true h2.1), h2.2⟩
set_option maxRecDepth 20000 in
theorem iwX8 : ∀ w ∈ wsX80, w ∈ wtb := by
  have h : (wsX80.all fun w => decide (w ∈ tables_1) && goodWord w) = true := by decide +kernel
  intro w hw
  have h2 := List.all_eq_true.mp h w hw
  rw [Bool.and_eq_true] at h2
  exact List.mem_filter.mpr ⟨List.mem_append_right _ (of_decide_eq_true h2.1), h2.2⟩
