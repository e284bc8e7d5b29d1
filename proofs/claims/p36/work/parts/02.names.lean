theorem goodIn_r {big : List Cond} (ws : List Cond) (ps : List Nat) (hp : ws = ps.filterMap (fun i => big[i]?)) (h : ws.all goodWord = true) : GoodIn big ws := by
  intro w hw
  have h1 := List.all_eq_true.mp h w hw
  rw [hp] at hw
  obtain ⟨i, -, hi⟩ := List.mem_filterMap.mp hw
  have hm : w ∈ big := by first | exact List.mem_of_getElem? hi | exact List.getElem?_mem hi
  exact ⟨hm, good_of_word h1⟩
theorem goodIn_app {big a b : List Cond} (ha : GoodIn big a) (hb : GoodIn big b) : GoodIn big (a ++ b) := fun w h => (List.mem_append.mp h).elim (ha w) (hb w)
theorem goodIn_ca {big a b : List Cond} {c : Cond} (ha : GoodIn big (c :: a)) (hb : GoodIn big b) : GoodIn big (c :: (a ++ b)) := fun w h => (List.mem_cons.mp h).elim (fun e => ha w (List.mem_cons.mpr (Or.inl e))) (fun h => (List.mem_append.mp h).elim (fun h => ha w (List.mem_cons.mpr (Or.inr h))) (hb w))
theorem goodIn_sub {big ws : List Cond} (hm : ∀ w ∈ ws, w ∈ big) (h : ws.all goodWord = true) : GoodIn big ws := fun w hw => ⟨hm w hw, good_of_word (List.all_eq_true.mp h w hw)⟩
def RX0 : String := "MirrorHouse$Change"
def TX0 : u_T := fun k => match k with
  | 0 => ("MirrorHouse$Change", "unlike", "[I", true)
  | 1 => ("MirrorHouse$Change", "n", "I", false)
  | _ => ("MirrorHouse$Change", "rows", "[I", true)
def tyX0 : Nat → FieldType := fun k => match k with
  | 0 => .array .int
  | 1 => .int
  | _ => .array .int
abbrev wsX00 : List Cond := u_ws RX0 TX0 3
theorem nmX0 : ∀ a, a < 3 → ∀ b, b < 3 → a ≠ b → (TX0 a).2.1 ≠ (TX0 b).2.1 := by decide +kernel
theorem tyX0_ok : ∀ k, k < 3 → parseFieldDescriptor (TX0 k).2.2.1 = some (tyX0 k) := by decide +kernel
abbrev cX0_init : ByteArray := prog_2_method_1_code
def yX0_init : MethodName := ⟨RX0, "<init>", "()V"⟩
def RX1 : String := "MirrorHouse$House"
def TX1 : u_T := fun k => match k with
  | 0 => ("MirrorHouse$House", "w", "I", true)
  | 1 => ("MirrorHouse$House", "h", "I", true)
  | 2 => ("MirrorHouse$House", "rooms", "I", true)
  | 3 => ("MirrorHouse$House", "sides", "I", true)
  | 4 => ("MirrorHouse$House", "panes", "[I", true)
  | 5 => ("MirrorHouse$House", "smeared", "[I", true)
  | 6 => ("MirrorHouse$House", "wayOf", "[I", true)
  | 7 => ("MirrorHouse$House", "evenBy", "[I", true)
  | 8 => ("MirrorHouse$House", "oddBy", "[I", true)
  | 9 => ("MirrorHouse$House", "firstToOpen", "I", false)
  | 10 => ("MirrorHouse$House", "secondToOpen", "I", false)
  | 11 => ("MirrorHouse$House", "keptTicks", "I", false)
  | 12 => ("MirrorHouse$House", "keptBy", "I", false)
  | 13 => ("MirrorHouse$House", "sidesBy", "[I", true)
  | 14 => ("MirrorHouse$House", "trial", "[I", true)
  | 15 => ("MirrorHouse$House", "opens", "[I", true)
  | 16 => ("MirrorHouse$House", "opensNow", "[I", true)
  | _ => ("MirrorHouse$House", "toOdd", "[I", true)
def tyX1 : Nat → FieldType := fun k => match k with
  | 0 => .int
  | 1 => .int
  | 2 => .int
  | 3 => .int
  | 4 => .array .int
  | 5 => .array .int
  | 6 => .array .int
  | 7 => .array .int
  | 8 => .array .int
  | 9 => .int
  | 10 => .int
  | 11 => .int
  | 12 => .int
  | 13 => .array .int
  | 14 => .array .int
  | 15 => .array .int
  | 16 => .array .int
  | _ => .array .int
abbrev wsX10 : List Cond := u_ws RX1 TX1 18
theorem nmX1 : ∀ a, a < 18 → ∀ b, b < 18 → a ≠ b → (TX1 a).2.1 ≠ (TX1 b).2.1 := by decide +kernel
theorem tyX1_ok : ∀ k, k < 18 → parseFieldDescriptor (TX1 k).2.2.1 = some (tyX1 k) := by decide +kernel
abbrev cX1_init : ByteArray := prog_3_method_1_code
def yX1_init : MethodName := ⟨RX1, "<init>", "(II)V"⟩
abbrev cX1_second : ByteArray := prog_3_method_2_code
def yX1_second : MethodName := ⟨RX1, "second", "(II)I"⟩
abbrev cX1_placeSides : ByteArray := prog_3_method_3_code
def yX1_placeSides : MethodName := ⟨RX1, "placeSides", "(II)V"⟩
abbrev cX1_place : ByteArray := prog_3_method_4_code
def yX1_place : MethodName := ⟨RX1, "place", "(IIII)V"⟩
abbrev cX1_hasRoom : ByteArray := prog_3_method_5_code
def yX1_hasRoom : MethodName := ⟨RX1, "hasRoom", "(I)Z"⟩
abbrev cX1_hasSide : ByteArray := prog_3_method_6_code
def yX1_hasSide : MethodName := ⟨RX1, "hasSide", "(I)Z"⟩
abbrev cX1_allRooms : ByteArray := prog_3_method_7_code
def yX1_allRooms : MethodName := ⟨RX1, "allRooms", "()I"⟩
abbrev cX1_sideOf : ByteArray := prog_3_method_8_code
def yX1_sideOf : MethodName := ⟨RX1, "sideOf", "(II)I"⟩
abbrev cX1_behind : ByteArray := prog_3_method_9_code
def yX1_behind : MethodName := ⟨RX1, "behind", "(II)I"⟩
abbrev cX1_become : ByteArray := prog_3_method_12_code
def yX1_become : MethodName := ⟨RX1, "become", "(II)I"⟩
def RX2 : String := "MirrorHouse$Report"
def TX2 : u_T := fun k => match k with
  | 0 => ("MirrorHouse$Report", "houseNumber", "I", true)
  | 1 => ("MirrorHouse$Report", "room", "I", true)
  | 2 => ("MirrorHouse$Report", "p", "I", true)
  | 3 => ("MirrorHouse$Report", "q", "I", true)
  | _ => ("MirrorHouse$Report", "saw", "Z", true)
def tyX2 : Nat → FieldType := fun k => match k with
  | 0 => .int
  | 1 => .int
  | 2 => .int
  | 3 => .int
  | _ => .boolean
abbrev wsX20 : List Cond := u_ws RX2 TX2 5
theorem nmX2 : ∀ a, a < 5 → ∀ b, b < 5 → a ≠ b → (TX2 a).2.1 ≠ (TX2 b).2.1 := by decide +kernel
theorem tyX2_ok : ∀ k, k < 5 → parseFieldDescriptor (TX2 k).2.2.1 = some (tyX2 k) := by decide +kernel
abbrev cX2_init : ByteArray := prog_4_method_1_code
def yX2_init : MethodName := ⟨RX2, "<init>", "(IIIIZ)V"⟩
def RX3 : String := "MirrorHouse$Sheet"
def TX3 : u_T := fun k => match k with
  | 0 => ("MirrorHouse$Sheet", "cells", "[I", true)
  | 1 => ("MirrorHouse$Sheet", "sort", "I", false)
  | _ => ("MirrorHouse$Sheet", "length", "I", false)
def tyX3 : Nat → FieldType := fun k => match k with
  | 0 => .array .int
  | 1 => .int
  | _ => .int
abbrev wsX30 : List Cond := u_ws RX3 TX3 3
theorem nmX3 : ∀ a, a < 3 → ∀ b, b < 3 → a ≠ b → (TX3 a).2.1 ≠ (TX3 b).2.1 := by decide +kernel
theorem tyX3_ok : ∀ k, k < 3 → parseFieldDescriptor (TX3 k).2.2.1 = some (tyX3 k) := by decide +kernel
abbrev cX3_init : ByteArray := prog_5_method_1_code
def yX3_init : MethodName := ⟨RX3, "<init>", "()V"⟩
abbrev cX3_renew : ByteArray := prog_5_method_2_code
def yX3_renew : MethodName := ⟨RX3, "renew", "(II)V"⟩
abbrev cX3_isNothing : ByteArray := prog_5_method_3_code
def yX3_isNothing : MethodName := ⟨RX3, "isNothing", "()Z"⟩
abbrev cX3_canBe : ByteArray := prog_5_method_4_code
def yX3_canBe : MethodName := ⟨RX3, "canBe", "(I)Z"⟩
abbrev cX3_hasCells : ByteArray := prog_5_method_5_code
def yX3_hasCells : MethodName := ⟨RX3, "hasCells", "(II)Z"⟩
abbrev cX3_cut : ByteArray := prog_5_method_6_code
def yX3_cut : MethodName := ⟨RX3, "cut", "(I)I"⟩
abbrev cX3_faultOfRow : ByteArray := prog_5_method_7_code
def yX3_faultOfRow : MethodName := ⟨RX3, "faultOfRow", "(III)I"⟩
def RX4 : String := "MirrorHouse$Sight"
def TX4 : u_T := fun k => match k with
  | 0 => ("MirrorHouse$Sight", "ends", "I", false)
  | 1 => ("MirrorHouse$Sight", "crossings", "I", false)
  | 2 => ("MirrorHouse$Sight", "mirrors", "I", false)
  | 3 => ("MirrorHouse$Sight", "room", "I", false)
  | 4 => ("MirrorHouse$Sight", "side", "I", false)
  | 5 => ("MirrorHouse$Sight", "found", "I", false)
  | 6 => ("MirrorHouse$Sight", "nearestP", "I", false)
  | 7 => ("MirrorHouse$Sight", "nearestQ", "I", false)
  | 8 => ("MirrorHouse$Sight", "ahead", "[I", true)
  | 9 => ("MirrorHouse$Sight", "pace", "[I", true)
  | _ => ("MirrorHouse$Sight", "folded", "[I", true)
def tyX4 : Nat → FieldType := fun k => match k with
  | 0 => .int
  | 1 => .int
  | 2 => .int
  | 3 => .int
  | 4 => .int
  | 5 => .int
  | 6 => .int
  | 7 => .int
  | 8 => .array .int
  | 9 => .array .int
  | _ => .array .int
abbrev wsX40 : List Cond := u_ws RX4 TX4 11
theorem nmX4 : ∀ a, a < 11 → ∀ b, b < 11 → a ≠ b → (TX4 a).2.1 ≠ (TX4 b).2.1 := by decide +kernel
theorem tyX4_ok : ∀ k, k < 11 → parseFieldDescriptor (TX4 k).2.2.1 = some (tyX4 k) := by decide +kernel
abbrev cX4_init : ByteArray := prog_6_method_1_code
def yX4_init : MethodName := ⟨RX4, "<init>", "()V"⟩
abbrev cX4_look : ByteArray := prog_6_method_2_code
def yX4_look : MethodName := ⟨RX4, "look", "(LMirrorHouse$House;IIII)V"⟩
abbrev cX4_setOut : ByteArray := prog_6_method_3_code
def yX4_setOut : MethodName := ⟨RX4, "setOut", "(III)V"⟩
abbrev cX4_thirdsIn : ByteArray := prog_6_method_4_code
def yX4_thirdsIn : MethodName := ⟨RX4, "thirdsIn", "(I)I"⟩
abbrev cX4_aim : ByteArray := prog_6_method_5_code
def yX4_aim : MethodName := ⟨RX4, "aim", "(III)V"⟩
abbrev cX4_goOn : ByteArray := prog_6_method_6_code
def yX4_goOn : MethodName := ⟨RX4, "goOn", "(LMirrorHouse$House;)V"⟩
abbrev cX4_nextWay : ByteArray := prog_6_method_7_code
def yX4_nextWay : MethodName := ⟨RX4, "nextWay", "()I"⟩
abbrev cX4_foldOver : ByteArray := prog_6_method_8_code
def yX4_foldOver : MethodName := ⟨RX4, "foldOver", "(I)V"⟩
abbrev cX4_imageBy : ByteArray := prog_6_method_9_code
def yX4_imageBy : MethodName := ⟨RX4, "imageBy", "(LMirrorHouse$House;III)I"⟩
abbrev cX4_crossesMore : ByteArray := prog_6_method_10_code
def yX4_crossesMore : MethodName := ⟨RX4, "crossesMore", "()Z"⟩
def RX5 : String := "MirrorHouse$Walker"
def TX5 : u_T := fun k => match k with
  | _ => ("", "", "", false)
def tyX5 : Nat → FieldType := fun k => match k with
  | _ => .int
abbrev wsX50 : List Cond := u_ws RX5 TX5 0
theorem nmX5 : ∀ a, a < 0 → ∀ b, b < 0 → a ≠ b → (TX5 a).2.1 ≠ (TX5 b).2.1 := by decide +kernel
theorem tyX5_ok : ∀ k, k < 0 → parseFieldDescriptor (TX5 k).2.2.1 = some (tyX5 k) := by decide +kernel
def RX6 : String := "MirrorHouse"
def TX6 : u_T := fun k => match k with
  | 0 => ("MirrorHouse", "sheets", "[LMirrorHouse$Sheet;", true)
  | 1 => ("MirrorHouse", "houses", "[LMirrorHouse$House;", true)
  | 2 => ("MirrorHouse", "reports", "[LMirrorHouse$Report;", true)
  | 3 => ("MirrorHouse", "walkers", "[LMirrorHouse$Walker;", true)
  | 4 => ("MirrorHouse", "photo", "[I", true)
  | 5 => ("MirrorHouse", "sight", "LMirrorHouse$Sight;", true)
  | 6 => ("MirrorHouse", "plan", "LMirrorHouse$Change;", true)
  | 7 => ("MirrorHouse", "houseCount", "I", false)
  | 8 => ("MirrorHouse", "reportCount", "I", false)
  | 9 => ("MirrorHouse", "walkerCount", "I", false)
  | 10 => ("MirrorHouse", "photoRows", "I", false)
  | 11 => ("MirrorHouse", "traced", "I", false)
  | _ => ("MirrorHouse", "lastFault", "I", false)
def tyX6 : Nat → FieldType := fun k => match k with
  | 0 => .array (.object "MirrorHouse$Sheet")
  | 1 => .array (.object "MirrorHouse$House")
  | 2 => .array (.object "MirrorHouse$Report")
  | 3 => .array (.object "MirrorHouse$Walker")
  | 4 => .array .int
  | 5 => .object "MirrorHouse$Sight"
  | 6 => .object "MirrorHouse$Change"
  | 7 => .int
  | 8 => .int
  | 9 => .int
  | 10 => .int
  | 11 => .int
  | _ => .int
abbrev wsX60 : List Cond := u_ws RX6 TX6 13
theorem nmX6 : ∀ a, a < 13 → ∀ b, b < 13 → a ≠ b → (TX6 a).2.1 ≠ (TX6 b).2.1 := by decide +kernel
theorem tyX6_ok : ∀ k, k < 13 → parseFieldDescriptor (TX6 k).2.2.1 = some (tyX6 k) := by decide +kernel
abbrev cX6_init : ByteArray := prog_1_method_1_code
def yX6_init : MethodName := ⟨RX6, "<init>", "()V"⟩
abbrev cX6_houseAt : ByteArray := prog_1_method_2_code
def yX6_houseAt : MethodName := ⟨RX6, "houseAt", "(I)LMirrorHouse$House;"⟩
abbrev cX6_sheetAt : ByteArray := prog_1_method_4_code
def yX6_sheetAt : MethodName := ⟨RX6, "sheetAt", "(I)LMirrorHouse$Sheet;"⟩
abbrev cX6_within : ByteArray := prog_1_method_5_code
def yX6_within : MethodName := ⟨RX6, "within", "(III)Z"⟩
abbrev cX6_isSort : ByteArray := prog_1_method_7_code
def yX6_isSort : MethodName := ⟨RX6, "isSort", "(I)Z"⟩
abbrev cX6_isTurn : ByteArray := prog_1_method_8_code
def yX6_isTurn : MethodName := ⟨RX6, "isTurn", "(II)Z"⟩
abbrev cX6_faulted : ByteArray := prog_1_method_9_code
def yX6_faulted : MethodName := ⟨RX6, "faulted", "(I)I"⟩
abbrev cX6_house : ByteArray := prog_1_method_11_code
def yX6_house : MethodName := ⟨RX6, "house", "(IIII)I"⟩
abbrev cX6_firstFaultOf : ByteArray := prog_1_method_12_code
def yX6_firstFaultOf : MethodName := ⟨RX6, "firstFaultOf", "(LMirrorHouse$Sheet;II)I"⟩
abbrev cX6_goesOn : ByteArray := prog_1_method_13_code
def yX6_goesOn : MethodName := ⟨RX6, "goesOn", "(LMirrorHouse$Sheet;II)Z"⟩
abbrev cX6_lettersOf : ByteArray := prog_1_method_14_code
def yX6_lettersOf : MethodName := ⟨RX6, "lettersOf", "(LMirrorHouse$Sheet;I)I"⟩
abbrev cX6_sidesOf : ByteArray := prog_1_method_15_code
def yX6_sidesOf : MethodName := ⟨RX6, "sidesOf", "(II)I"⟩
abbrev cX6_kindOf : ByteArray := prog_1_method_16_code
def yX6_kindOf : MethodName := ⟨RX6, "kindOf", "(I)I"⟩
abbrev cX6_builtBy : ByteArray := prog_1_method_17_code
def yX6_builtBy : MethodName := ⟨RX6, "builtBy", "(LMirrorHouse$Sheet;I)LMirrorHouse$House;"⟩
abbrev cX6_pane : ByteArray := prog_1_method_21_code
def yX6_pane : MethodName := ⟨RX6, "pane", "(III)I"⟩
abbrev cX6_seen : ByteArray := prog_1_method_22_code
def yX6_seen : MethodName := ⟨RX6, "seen", "(IIIIII)I"⟩
abbrev cX6_met : ByteArray := prog_1_method_23_code
def yX6_met : MethodName := ⟨RX6, "met", "(IIIII)I"⟩
abbrev cX6_image : ByteArray := prog_1_method_24_code
def yX6_image : MethodName := ⟨RX6, "image", "(IIII)I"⟩
abbrev cX6_report : ByteArray := prog_1_method_26_code
def yX6_report : MethodName := ⟨RX6, "report", "(IIIIZ)I"⟩
abbrev cX6_spots : ByteArray := prog_1_method_27_code
def yX6_spots : MethodName := ⟨RX6, "spots", "(I)I"⟩
abbrev cX6_fits : ByteArray := prog_1_method_28_code
def yX6_fits : MethodName := ⟨RX6, "fits", "(LMirrorHouse$House;LMirrorHouse$Report;)I"⟩
abbrev cX6_sheet : ByteArray := prog_1_method_45_code
def yX6_sheet : MethodName := ⟨RX6, "sheet", "(III)I"⟩
abbrev cX6_put : ByteArray := prog_1_method_47_code
def yX6_put : MethodName := ⟨RX6, "put", "(III)I"⟩
def RX7 : String := "MirrorHouseModel"
def TX7 : u_T := fun k => match k with
  | _ => ("", "", "", false)
def tyX7 : Nat → FieldType := fun k => match k with
  | _ => .int
abbrev wsX70 : List Cond := u_ws RX7 TX7 0
theorem nmX7 : ∀ a, a < 0 → ∀ b, b < 0 → a ≠ b → (TX7 a).2.1 ≠ (TX7 b).2.1 := by decide +kernel
theorem tyX7_ok : ∀ k, k < 0 → parseFieldDescriptor (TX7 k).2.2.1 = some (tyX7 k) := by decide +kernel
def RJ9 : String := "java/lang/Math"
def TJ9 : u_T := fun k => match k with
  | _ => ("", "", "", false)
def tyJ9 : Nat → FieldType := fun k => match k with
  | _ => .int
theorem tyJ9_ok : ∀ k, k < 0 → parseFieldDescriptor (TJ9 k).2.2.1 = some (tyJ9 k) := by decide +kernel
abbrev cJ9_floorMod_7cf53 : ByteArray := prog_10_method_50_code
def yJ9_floorMod_7cf53 : MethodName := ⟨RJ9, "floorMod", "(II)I"⟩
abbrev cJ9_abs_0f7a4 : ByteArray := prog_10_method_59_code
def yJ9_abs_0f7a4 : MethodName := ⟨RJ9, "abs", "(I)I"⟩
def RJ7 : String := "java/util/Arrays"
def TJ7 : u_T := fun k => match k with
  | _ => ("", "", "", false)
def tyJ7 : Nat → FieldType := fun k => match k with
  | _ => .int
theorem tyJ7_ok : ∀ k, k < 0 → parseFieldDescriptor (TJ7 k).2.2.1 = some (tyJ7 k) := by decide +kernel
abbrev cJ7_fill_53178 : ByteArray := prog_11_method_103_code
def yJ7_fill_53178 : MethodName := ⟨RJ7, "fill", "([II)V"⟩
def RL : String := "MirrorHouseLaw"
abbrev cL_cell : ByteArray := method_2_code
def yL_cell : MethodName := ⟨RL, "cell", "([II)I"⟩
abbrev cL_some : ByteArray := method_3_code
def yL_some : MethodName := ⟨RL, "some", "(II)I"⟩
abbrev cL_put : ByteArray := method_4_code
def yL_put : MethodName := ⟨RL, "put", "(LMirrorHouse;[IIII[I)I"⟩
abbrev cL_side : ByteArray := method_5_code
def yL_side : MethodName := ⟨RL, "side", "([III)I"⟩
abbrev cL_behind : ByteArray := method_6_code
def yL_behind : MethodName := ⟨RL, "behind", "([III)I"⟩
abbrev cL_go : ByteArray := method_7_code
def yL_go : MethodName := ⟨RL, "go", "([IIIII[I)I"⟩
abbrev cL_law : ByteArray := code
def yL_law : MethodName := ⟨RL, "law", "([I)Z"⟩
abbrev vwCl : List vw_C := [(RX0, TX0, 3), (RX1, TX1, 18), (RX2, TX2, 5), (RX3, TX3, 3), (RX4, TX4, 11), (RX6, TX6, 13)]
theorem mhGiX0 : GoodIn lw_tbl wsX00 := goodIn_r _ [89, 91, 93] (by decide +kernel) (by decide +kernel)
theorem mhGiX1 : GoodIn lw_tbl wsX10 := goodIn_r _ [241, 243, 245, 247, 249, 251, 253, 255, 257, 259, 261, 263, 265, 267, 269, 271, 273, 275] (by decide +kernel) (by decide +kernel)
theorem mhGiX2 : GoodIn lw_tbl wsX20 := goodIn_r _ [383, 385, 387, 389, 391] (by decide +kernel) (by decide +kernel)
theorem mhGiX3 : GoodIn lw_tbl wsX30 := goodIn_r _ [106, 108, 110] (by decide +kernel) (by decide +kernel)
theorem mhGiX4 : GoodIn lw_tbl wsX40 := goodIn_r _ [57, 59, 61, 63, 65, 67, 69, 71, 73, 75, 77] (by decide +kernel) (by decide +kernel)
theorem mhGiX5 : GoodIn lw_tbl wsX50 := goodIn_r _ [] (by decide +kernel) (by decide +kernel)
theorem mhGiX6 : GoodIn lw_tbl wsX60 := goodIn_r _ [123, 125, 127, 129, 131, 133, 135, 137, 139, 141, 143, 145, 147] (by decide +kernel) (by decide +kernel)
theorem mhGiX7 : GoodIn lw_tbl wsX70 := goodIn_r _ [] (by decide +kernel) (by decide +kernel)
/-- the tables' words that hold on while the run goes on -/
def mhT : List Cond := lw_tbl.filter goodWord
theorem mhT_in {w : Cond} (h : w ∈ mhT) : w ∈ lw_tbl := (List.mem_filter.mp h).1
theorem mhT_of {w : Cond} (i : Nat) (h : lw_tbl[i]? = some w) (hg : goodWord w = true) : w ∈ mhT := List.mem_filter.mpr ⟨List.mem_of_getElem? h, hg⟩
theorem mhT_good : GoodIn mhT mhT := fun w h => ⟨h, good_of_word (List.mem_filter.mp h).2⟩
theorem inX0 : ∀ w ∈ wsX00, w ∈ mhT := fun w h => List.mem_filter.mpr ⟨(mhGiX0 w h).1, List.all_eq_true.mp (show wsX00.all goodWord = true by decide +kernel) w h⟩
theorem inX1 : ∀ w ∈ wsX10, w ∈ mhT := fun w h => List.mem_filter.mpr ⟨(mhGiX1 w h).1, List.all_eq_true.mp (show wsX10.all goodWord = true by decide +kernel) w h⟩
theorem inX2 : ∀ w ∈ wsX20, w ∈ mhT := fun w h => List.mem_filter.mpr ⟨(mhGiX2 w h).1, List.all_eq_true.mp (show wsX20.all goodWord = true by decide +kernel) w h⟩
theorem inX3 : ∀ w ∈ wsX30, w ∈ mhT := fun w h => List.mem_filter.mpr ⟨(mhGiX3 w h).1, List.all_eq_true.mp (show wsX30.all goodWord = true by decide +kernel) w h⟩
theorem inX4 : ∀ w ∈ wsX40, w ∈ mhT := fun w h => List.mem_filter.mpr ⟨(mhGiX4 w h).1, List.all_eq_true.mp (show wsX40.all goodWord = true by decide +kernel) w h⟩
theorem inX5 : ∀ w ∈ wsX50, w ∈ mhT := fun w h => List.mem_filter.mpr ⟨(mhGiX5 w h).1, List.all_eq_true.mp (show wsX50.all goodWord = true by decide +kernel) w h⟩
theorem inX6 : ∀ w ∈ wsX60, w ∈ mhT := fun w h => List.mem_filter.mpr ⟨(mhGiX6 w h).1, List.all_eq_true.mp (show wsX60.all goodWord = true by decide +kernel) w h⟩
theorem inX7 : ∀ w ∈ wsX70, w ∈ mhT := fun w h => List.mem_filter.mpr ⟨(mhGiX7 w h).1, List.all_eq_true.mp (show wsX70.all goodWord = true by decide +kernel) w h⟩
