def mX0_init : mhM := (yX0_init, cX0_init, 1, none, { frames := 1, cells := 2, slots := 1034, locals := 20 })
def mX6_sidesOf : mhM := (yX6_sidesOf, cX6_sidesOf, 2, some .int, { frames := 0, cells := 0, slots := 0, locals := 0 })
def mX1_place : mhM := (yX1_place, cX1_place, 5, none, { frames := 0, cells := 0, slots := 0, locals := 0 })
def mX1_second : mhM := (yX1_second, cX1_second, 3, some .int, { frames := 0, cells := 0, slots := 0, locals := 0 })
def mX1_placeSides : mhM := (yX1_placeSides, cX1_placeSides, 4, none, { frames := 1, cells := 0, slots := 0, locals := 24 })
def mX1_init : mhM := (yX1_init, cX1_init, 5, none, { frames := 2, cells := 10, slots := 341, locals := 47 })
def mX6_within : mhM := (yX6_within, cX6_within, 3, some .boolean, { frames := 0, cells := 0, slots := 0, locals := 0 })
def mX1_hasRoom : mhM := (yX1_hasRoom, cX1_hasRoom, 2, some .boolean, { frames := 1, cells := 0, slots := 0, locals := 22 })
def mX1_hasSide : mhM := (yX1_hasSide, cX1_hasSide, 2, some .boolean, { frames := 1, cells := 0, slots := 0, locals := 22 })
def mX1_allRooms : mhM := (yX1_allRooms, cX1_allRooms, 1, some .int, { frames := 0, cells := 0, slots := 0, locals := 0 })
def mX1_sideOf : mhM := (yX1_sideOf, cX1_sideOf, 3, some .int, { frames := 0, cells := 0, slots := 0, locals := 0 })
def mX1_behind : mhM := (yX1_behind, cX1_behind, 4, some .int, { frames := 1, cells := 0, slots := 0, locals := 22 })
def mX1_become : mhM := (yX1_become, cX1_become, 4, some .int, { frames := 0, cells := 0, slots := 0, locals := 0 })
def mX2_init : mhM := (yX2_init, cX2_init, 6, none, { frames := 1, cells := 0, slots := 0, locals := 20 })
def mX3_init : mhM := (yX3_init, cX3_init, 1, none, { frames := 1, cells := 1, slots := 60, locals := 20 })
def mJ7_fill_53178 : mhM := (yJ7_fill_53178, cJ7_fill_53178, 4, none, { frames := 0, cells := 0, slots := 0, locals := 0 })
def mX3_renew : mhM := (yX3_renew, cX3_renew, 3, none, { frames := 1, cells := 0, slots := 0, locals := 23 })
def mX3_isNothing : mhM := (yX3_isNothing, cX3_isNothing, 1, some .boolean, { frames := 0, cells := 0, slots := 0, locals := 0 })
def mX3_canBe : mhM := (yX3_canBe, cX3_canBe, 2, some .boolean, { frames := 1, cells := 0, slots := 0, locals := 20 })
def mX3_hasCells : mhM := (yX3_hasCells, cX3_hasCells, 3, some .boolean, { frames := 0, cells := 0, slots := 0, locals := 0 })
def mX3_cut : mhM := (yX3_cut, cX3_cut, 2, some .int, { frames := 0, cells := 0, slots := 0, locals := 0 })
def mX3_faultOfRow : mhM := (yX3_faultOfRow, cX3_faultOfRow, 4, some .int, { frames := 2, cells := 0, slots := 0, locals := 41 })
def mX4_init : mhM := (yX4_init, cX4_init, 1, none, { frames := 1, cells := 3, slots := 9, locals := 20 })
def mX4_thirdsIn : mhM := (yX4_thirdsIn, cX4_thirdsIn, 1, some .int, { frames := 0, cells := 0, slots := 0, locals := 0 })
def mX4_aim : mhM := (yX4_aim, cX4_aim, 5, none, { frames := 1, cells := 0, slots := 0, locals := 21 })
def mX4_setOut : mhM := (yX4_setOut, cX4_setOut, 5, none, { frames := 2, cells := 0, slots := 0, locals := 45 })
def mX4_nextWay : mhM := (yX4_nextWay, cX4_nextWay, 5, some .int, { frames := 0, cells := 0, slots := 0, locals := 0 })
def mX4_foldOver : mhM := (yX4_foldOver, cX4_foldOver, 5, none, { frames := 0, cells := 0, slots := 0, locals := 0 })
def mX4_goOn : mhM := (yX4_goOn, cX4_goOn, 4, none, { frames := 2, cells := 0, slots := 0, locals := 45 })
def mX4_look : mhM := (yX4_look, cX4_look, 7, none, { frames := 3, cells := 0, slots := 0, locals := 69 })
def mJ9_floorMod_7cf53 : mhM := (yJ9_floorMod_7cf53, cJ9_floorMod_7cf53, 3, some .int, { frames := 0, cells := 0, slots := 0, locals := 0 })
def mX4_crossesMore : mhM := (yX4_crossesMore, cX4_crossesMore, 2, some .boolean, { frames := 0, cells := 0, slots := 0, locals := 0 })
def mX4_imageBy : mhM := (yX4_imageBy, cX4_imageBy, 8, some .int, { frames := 3, cells := 0, slots := 0, locals := 69 })
def mX6_init : mhM := (yX6_init, cX6_init, 2, none, { frames := 2, cells := 20, slots := 1366, locals := 40 })
def mX6_houseAt : mhM := (yX6_houseAt, cX6_houseAt, 2, some (.object "MirrorHouse$House"), { frames := 0, cells := 0, slots := 0, locals := 0 })
def mX6_sheetAt : mhM := (yX6_sheetAt, cX6_sheetAt, 2, some (.object "MirrorHouse$Sheet"), { frames := 0, cells := 0, slots := 0, locals := 0 })
def mX6_isSort : mhM := (yX6_isSort, cX6_isSort, 1, some .boolean, { frames := 1, cells := 0, slots := 0, locals := 22 })
def mX6_isTurn : mhM := (yX6_isTurn, cX6_isTurn, 2, some .boolean, { frames := 1, cells := 0, slots := 0, locals := 22 })
def mX6_faulted : mhM := (yX6_faulted, cX6_faulted, 2, some .int, { frames := 0, cells := 0, slots := 0, locals := 0 })
def mX6_lettersOf : mhM := (yX6_lettersOf, cX6_lettersOf, 2, some .int, { frames := 1, cells := 0, slots := 0, locals := 21 })
def mX6_kindOf : mhM := (yX6_kindOf, cX6_kindOf, 1, some .int, { frames := 0, cells := 0, slots := 0, locals := 0 })
def mX6_goesOn : mhM := (yX6_goesOn, cX6_goesOn, 4, some .boolean, { frames := 2, cells := 0, slots := 0, locals := 42 })
def mX6_firstFaultOf : mhM := (yX6_firstFaultOf, cX6_firstFaultOf, 4, some .int, { frames := 3, cells := 0, slots := 0, locals := 65 })
def mX6_builtBy : mhM := (yX6_builtBy, cX6_builtBy, 4, some (.object "MirrorHouse$House"), { frames := 3, cells := 11, slots := 359, locals := 71 })
def mX6_house : mhM := (yX6_house, cX6_house, 8, some .int, { frames := 4, cells := 11, slots := 359, locals := 94 })
def mX6_pane : mhM := (yX6_pane, cX6_pane, 5, some .int, { frames := 2, cells := 0, slots := 0, locals := 43 })
def mX6_seen : mhM := (yX6_seen, cX6_seen, 8, some .int, { frames := 4, cells := 0, slots := 0, locals := 95 })
def mX6_met : mhM := (yX6_met, cX6_met, 7, some .int, { frames := 4, cells := 0, slots := 0, locals := 95 })
def mX6_image : mhM := (yX6_image, cX6_image, 6, some .int, { frames := 4, cells := 0, slots := 0, locals := 96 })
def mX6_report : mhM := (yX6_report, cX6_report, 7, some .int, { frames := 2, cells := 1, slots := 5, locals := 45 })
def mX6_fits : mhM := (yX6_fits, cX6_fits, 5, some .int, { frames := 4, cells := 0, slots := 0, locals := 96 })
def mX6_spots : mhM := (yX6_spots, cX6_spots, 6, some .int, { frames := 5, cells := 0, slots := 0, locals := 120 })
def mX6_sheet : mhM := (yX6_sheet, cX6_sheet, 5, some .int, { frames := 2, cells := 0, slots := 0, locals := 45 })
def mX6_put : mhM := (yX6_put, cX6_put, 5, some .int, { frames := 1, cells := 0, slots := 0, locals := 22 })
def mJ9_abs_0f7a4 : mhM := (yJ9_abs_0f7a4, cJ9_abs_0f7a4, 1, some .int, { frames := 0, cells := 0, slots := 0, locals := 0 })
def mL_cell : mhM := (yL_cell, cL_cell, 2, some .int, { frames := 0, cells := 0, slots := 0, locals := 0 })
def mL_some : mhM := (yL_some, cL_some, 2, some .int, { frames := 0, cells := 0, slots := 0, locals := 0 })
def mL_put : mhM := (yL_put, cL_put, 10, some .int, { frames := 3, cells := 0, slots := 0, locals := 69 })
def mL_side : mhM := (yL_side, cL_side, 6, some .int, { frames := 0, cells := 0, slots := 0, locals := 0 })
def mL_behind : mhM := (yL_behind, cL_behind, 5, some .int, { frames := 1, cells := 0, slots := 0, locals := 25 })
def mL_go : mhM := (yL_go, cL_go, 39, some .int, { frames := 2, cells := 0, slots := 0, locals := 49 })
def mL_law : mhM := (yL_law, cL_law, maxLocals, ret, room_1)
theorem mhTs {w : Cond} (h : w ∈ k2_sels lw_privs) (hg : goodWord w = true) : w ∈ mhT := List.mem_filter.mpr ⟨List.mem_append_left _ h, hg⟩
theorem mhT1 {w : Cond} (h : w ∈ tables_1_1) (hg : goodWord w = true) : w ∈ mhT := List.mem_filter.mpr ⟨List.mem_append_right _ (List.mem_append_left _ h), hg⟩
theorem mhT2 {w : Cond} (h : w ∈ tables_1_2) (hg : goodWord w = true) : w ∈ mhT := List.mem_filter.mpr ⟨List.mem_append_right _ (List.mem_append_right _ (h)), hg⟩
theorem wd_0 : Cond.selects "MirrorHouse" yX6_sheetAt yX6_sheetAt ∈ mhT := mhTs (List.mem_of_getElem? (i := 0) rfl) rfl
theorem wd_1 : Cond.selects "MirrorHouse" yX6_faulted yX6_faulted ∈ mhT := mhTs (List.mem_of_getElem? (i := 1) rfl) rfl
theorem wd_2 : Cond.selects "MirrorHouse$House" yX1_placeSides yX1_placeSides ∈ mhT := mhTs (List.mem_of_getElem? (i := 2) rfl) rfl
theorem wd_3 : Cond.selects "MirrorHouse$House" yX1_place yX1_place ∈ mhT := mhTs (List.mem_of_getElem? (i := 3) rfl) rfl
theorem wd_4 : Cond.selects "MirrorHouse$House" yX1_second yX1_second ∈ mhT := mhTs (List.mem_of_getElem? (i := 4) rfl) rfl
theorem wd_5 : Cond.selects "MirrorHouse" yX6_houseAt yX6_houseAt ∈ mhT := mhTs (List.mem_of_getElem? (i := 5) rfl) rfl
theorem wd_6 : Cond.selects "MirrorHouse$Sight" yX4_setOut yX4_setOut ∈ mhT := mhTs (List.mem_of_getElem? (i := 6) rfl) rfl
theorem wd_7 : Cond.selects "MirrorHouse$Sight" yX4_aim yX4_aim ∈ mhT := mhTs (List.mem_of_getElem? (i := 7) rfl) rfl
theorem wd_8 : Cond.selects "MirrorHouse$Sight" yX4_goOn yX4_goOn ∈ mhT := mhTs (List.mem_of_getElem? (i := 8) rfl) rfl
theorem wd_9 : Cond.selects "MirrorHouse$Sight" yX4_nextWay yX4_nextWay ∈ mhT := mhTs (List.mem_of_getElem? (i := 9) rfl) rfl
theorem wd_10 : Cond.selects "MirrorHouse$Sight" yX4_foldOver yX4_foldOver ∈ mhT := mhTs (List.mem_of_getElem? (i := 10) rfl) rfl
theorem wd_11 : Cond.selects "MirrorHouse$Sight" yX4_crossesMore yX4_crossesMore ∈ mhT := mhTs (List.mem_of_getElem? (i := 11) rfl) rfl
theorem wd_12 : Cond.selects "MirrorHouse" yX6_fits yX6_fits ∈ mhT := mhTs (List.mem_of_getElem? (i := 12) rfl) rfl
theorem wd_13 : Cond.initialized "MirrorHouseLaw" ∈ mhT := mhT1 (List.mem_of_getElem? (i := 0) rfl) rfl
theorem wd_14 : Cond.initialized "MirrorHouse" ∈ mhT := mhT1 (List.mem_of_getElem? (i := 1) rfl) rfl
theorem wd_15 : Cond.initialized "MirrorHouse$Sight" ∈ mhT := mhT1 (List.mem_of_getElem? (i := 2) rfl) rfl
theorem wd_16 : Cond.initialized "MirrorHouse$Change" ∈ mhT := mhT1 (List.mem_of_getElem? (i := 3) rfl) rfl
theorem wd_17 : Cond.initialized "MirrorHouse$Sheet" ∈ mhT := mhT1 (List.mem_of_getElem? (i := 4) rfl) rfl
theorem wd_18 : Cond.initialized "java/util/Arrays" ∈ mhT := mhT1 (List.mem_of_getElem? (i := 5) rfl) rfl
theorem wd_19 : Cond.initialized "MirrorHouse$House" ∈ mhT := mhT1 (List.mem_of_getElem? (i := 6) rfl) rfl
theorem wd_20 : Cond.initialized "java/lang/Math" ∈ mhT := mhT1 (List.mem_of_getElem? (i := 7) rfl) rfl
theorem wd_21 : Cond.initialized "MirrorHouse$Report" ∈ mhT := mhT1 (List.mem_of_getElem? (i := 8) rfl) rfl
theorem wd_22 : Cond.classLink "MirrorHouseLaw" 20 "MirrorHouse" ∈ mhT := mhT1 (List.mem_of_getElem? (i := 9) rfl) rfl
theorem wd_23 : Cond.instantiable "MirrorHouse" 13 ∈ mhT := mhT1 (List.mem_of_getElem? (i := 10) rfl) rfl
theorem wd_24 : Cond.methodLink "MirrorHouseLaw" 39 yX6_init ∈ mhT := mhT1 (List.mem_of_getElem? (i := 11) rfl) rfl
theorem wd_25 : Cond.instanceMethod yX6_init ∈ mhT := mhT1 (List.mem_of_getElem? (i := 12) rfl) rfl
theorem wd_26 : Cond.code yX6_init prog_1_method_1_code 2 none ∈ mhT := mhT1 (List.mem_of_getElem? (i := 13) rfl) rfl
theorem wd_27 : Cond.methodLink "MirrorHouse" 3 Lib.objectInit ∈ mhT := mhT1 (List.mem_of_getElem? (i := 14) rfl) rfl
theorem wd_28 : Cond.instanceMethod Lib.objectInit ∈ mhT := mhT1 (List.mem_of_getElem? (i := 15) rfl) rfl
theorem wd_29 : Cond.code Lib.objectInit ⟨#[0xb1]⟩ 1 none ∈ mhT := mhT1 (List.mem_of_getElem? (i := 16) rfl) rfl
theorem wd_30 : Cond.classLink "MirrorHouse" 9 "MirrorHouse$Sheet" ∈ mhT := mhT1 (List.mem_of_getElem? (i := 17) rfl) rfl
theorem wd_32 : Cond.classLink "MirrorHouse" 17 "MirrorHouse$House" ∈ mhT := mhT1 (List.mem_of_getElem? (i := 19) rfl) rfl
theorem wd_34 : Cond.classLink "MirrorHouse" 23 "MirrorHouse$Report" ∈ mhT := mhT1 (List.mem_of_getElem? (i := 21) rfl) rfl
theorem wd_36 : Cond.classLink "MirrorHouse" 29 "MirrorHouse$Walker" ∈ mhT := mhT1 (List.mem_of_getElem? (i := 23) rfl) rfl
theorem wd_38 : Cond.classLink "MirrorHouse" 39 "MirrorHouse$Sight" ∈ mhT := mhT1 (List.mem_of_getElem? (i := 25) rfl) rfl
theorem wd_39 : Cond.instantiable "MirrorHouse$Sight" 11 ∈ mhT := mhT1 (List.mem_of_getElem? (i := 26) rfl) rfl
theorem wd_41 : Cond.instanceMethod yX4_init ∈ mhT := mhT1 (List.mem_of_getElem? (i := 28) rfl) rfl
theorem wd_42 : Cond.code yX4_init prog_6_method_1_code 1 none ∈ mhT := mhT1 (List.mem_of_getElem? (i := 29) rfl) rfl
theorem wd_43 : Cond.methodLink "MirrorHouse$Sight" 3 Lib.objectInit ∈ mhT := mhT1 (List.mem_of_getElem? (i := 30) rfl) rfl
theorem wd_44 : Cond.fieldLink "MirrorHouse$Sight" 25 "MirrorHouse$Sight" "ends" "I" ∈ mhT := mhT1 (List.mem_of_getElem? (i := 31) rfl) rfl
theorem wd_45 : Cond.fieldLink "MirrorHouse" 176 "MirrorHouse$Sight" "ends" "I" ∈ mhT := mhT1 (List.mem_of_getElem? (i := 32) rfl) rfl
theorem wd_46 : Cond.fieldLink "MirrorHouse$Sight" 33 "MirrorHouse$Sight" "crossings" "I" ∈ mhT := mhT1 (List.mem_of_getElem? (i := 33) rfl) rfl
theorem wd_47 : Cond.fieldLink "MirrorHouse" 179 "MirrorHouse$Sight" "crossings" "I" ∈ mhT := mhT1 (List.mem_of_getElem? (i := 34) rfl) rfl
theorem wd_48 : Cond.fieldLink "MirrorHouse$Sight" 36 "MirrorHouse$Sight" "mirrors" "I" ∈ mhT := mhT1 (List.mem_of_getElem? (i := 35) rfl) rfl
theorem wd_49 : Cond.fieldLink "MirrorHouse" 182 "MirrorHouse$Sight" "mirrors" "I" ∈ mhT := mhT1 (List.mem_of_getElem? (i := 36) rfl) rfl
theorem wd_50 : Cond.fieldLink "MirrorHouse$Sight" 39 "MirrorHouse$Sight" "room" "I" ∈ mhT := mhT1 (List.mem_of_getElem? (i := 37) rfl) rfl
theorem wd_51 : Cond.fieldLink "MirrorHouse" 185 "MirrorHouse$Sight" "room" "I" ∈ mhT := mhT1 (List.mem_of_getElem? (i := 38) rfl) rfl
theorem wd_52 : Cond.fieldLink "MirrorHouse$Sight" 42 "MirrorHouse$Sight" "side" "I" ∈ mhT := mhT1 (List.mem_of_getElem? (i := 39) rfl) rfl
theorem wd_53 : Cond.fieldLink "MirrorHouse" 188 "MirrorHouse$Sight" "side" "I" ∈ mhT := mhT1 (List.mem_of_getElem? (i := 40) rfl) rfl
theorem wd_54 : Cond.fieldLink "MirrorHouse$Sight" 9 "MirrorHouse$Sight" "ahead" "[I" ∈ mhT := mhT1 (List.mem_of_getElem? (i := 41) rfl) rfl
theorem wd_55 : Cond.fieldLink "MirrorHouse$Sight" 15 "MirrorHouse$Sight" "pace" "[I" ∈ mhT := mhT1 (List.mem_of_getElem? (i := 42) rfl) rfl
theorem wd_56 : Cond.fieldLink "MirrorHouse$Sight" 18 "MirrorHouse$Sight" "folded" "[I" ∈ mhT := mhT1 (List.mem_of_getElem? (i := 43) rfl) rfl
theorem wd_80 : Cond.arrayClass .int ∈ mhT := mhT1 (List.mem_of_getElem? (i := 67) rfl) rfl
theorem wd_81 : Cond.classLink "MirrorHouse" 46 "MirrorHouse$Change" ∈ mhT := mhT1 (List.mem_of_getElem? (i := 68) rfl) rfl
theorem wd_82 : Cond.instantiable "MirrorHouse$Change" 3 ∈ mhT := mhT1 (List.mem_of_getElem? (i := 69) rfl) rfl
theorem wd_84 : Cond.instanceMethod yX0_init ∈ mhT := mhT1 (List.mem_of_getElem? (i := 71) rfl) rfl
theorem wd_85 : Cond.code yX0_init prog_2_method_1_code 1 none ∈ mhT := mhT1 (List.mem_of_getElem? (i := 72) rfl) rfl
theorem wd_86 : Cond.methodLink "MirrorHouse$Change" 3 Lib.objectInit ∈ mhT := mhT1 (List.mem_of_getElem? (i := 73) rfl) rfl
theorem wd_87 : Cond.fieldLink "MirrorHouse$Change" 9 "MirrorHouse$Change" "unlike" "[I" ∈ mhT := mhT1 (List.mem_of_getElem? (i := 74) rfl) rfl
theorem wd_88 : Cond.fieldLink "MirrorHouse$Change" 15 "MirrorHouse$Change" "rows" "[I" ∈ mhT := mhT1 (List.mem_of_getElem? (i := 75) rfl) rfl
theorem wd_96 : Cond.instantiable "MirrorHouse$Sheet" 3 ∈ mhT := mhT1 (List.mem_of_getElem? (i := 83) rfl) rfl
theorem wd_98 : Cond.instanceMethod yX3_init ∈ mhT := mhT1 (List.mem_of_getElem? (i := 85) rfl) rfl
theorem wd_99 : Cond.code yX3_init prog_5_method_1_code 1 none ∈ mhT := mhT1 (List.mem_of_getElem? (i := 86) rfl) rfl
theorem wd_100 : Cond.methodLink "MirrorHouse$Sheet" 3 Lib.objectInit ∈ mhT := mhT1 (List.mem_of_getElem? (i := 87) rfl) rfl
theorem wd_101 : Cond.fieldLink "MirrorHouse$Sheet" 9 "MirrorHouse$Sheet" "cells" "[I" ∈ mhT := mhT1 (List.mem_of_getElem? (i := 88) rfl) rfl
theorem wd_102 : Cond.fieldLink "MirrorHouse" 102 "MirrorHouse$Sheet" "cells" "[I" ∈ mhT := mhT1 (List.mem_of_getElem? (i := 89) rfl) rfl
theorem wd_103 : Cond.fieldLink "MirrorHouse$Sheet" 15 "MirrorHouse$Sheet" "sort" "I" ∈ mhT := mhT1 (List.mem_of_getElem? (i := 90) rfl) rfl
theorem wd_104 : Cond.fieldLink "MirrorHouse$Sheet" 19 "MirrorHouse$Sheet" "length" "I" ∈ mhT := mhT1 (List.mem_of_getElem? (i := 91) rfl) rfl
theorem wd_105 : Cond.fieldLink "MirrorHouse" 336 "MirrorHouse$Sheet" "length" "I" ∈ mhT := mhT1 (List.mem_of_getElem? (i := 92) rfl) rfl
theorem wd_113 : Cond.fieldLink "MirrorHouse" 11 "MirrorHouse" "sheets" "[LMirrorHouse$Sheet;" ∈ mhT := mhT1 (List.mem_of_getElem? (i := 100) rfl) rfl
theorem wd_114 : Cond.fieldLink "MirrorHouse" 19 "MirrorHouse" "houses" "[LMirrorHouse$House;" ∈ mhT := mhT1 (List.mem_of_getElem? (i := 101) rfl) rfl
theorem wd_115 : Cond.fieldLink "MirrorHouse" 25 "MirrorHouse" "reports" "[LMirrorHouse$Report;" ∈ mhT := mhT1 (List.mem_of_getElem? (i := 102) rfl) rfl
theorem wd_116 : Cond.fieldLink "MirrorHouse" 31 "MirrorHouse" "walkers" "[LMirrorHouse$Walker;" ∈ mhT := mhT1 (List.mem_of_getElem? (i := 103) rfl) rfl
theorem wd_117 : Cond.fieldLink "MirrorHouse" 35 "MirrorHouse" "photo" "[I" ∈ mhT := mhT1 (List.mem_of_getElem? (i := 104) rfl) rfl
theorem wd_118 : Cond.fieldLink "MirrorHouse" 42 "MirrorHouse" "sight" "LMirrorHouse$Sight;" ∈ mhT := mhT1 (List.mem_of_getElem? (i := 105) rfl) rfl
theorem wd_119 : Cond.fieldLink "MirrorHouse" 49 "MirrorHouse" "plan" "LMirrorHouse$Change;" ∈ mhT := mhT1 (List.mem_of_getElem? (i := 106) rfl) rfl
theorem wd_120 : Cond.fieldLink "MirrorHouse" 54 "MirrorHouse" "houseCount" "I" ∈ mhT := mhT1 (List.mem_of_getElem? (i := 107) rfl) rfl
theorem wd_121 : Cond.fieldLink "MirrorHouse" 208 "MirrorHouse" "reportCount" "I" ∈ mhT := mhT1 (List.mem_of_getElem? (i := 108) rfl) rfl
theorem wd_122 : Cond.fieldLink "MirrorHouse" 65 "MirrorHouse" "lastFault" "I" ∈ mhT := mhT1 (List.mem_of_getElem? (i := 109) rfl) rfl
theorem wd_150 : Cond.methodLink "MirrorHouseLaw" 43 yX6_house ∈ mhT := mhT1 (List.mem_of_getElem? (i := 137) rfl) rfl
theorem wd_151 : Cond.instanceMethod yX6_house ∈ mhT := mhT1 (List.mem_of_getElem? (i := 138) rfl) rfl
theorem wd_152 : Cond.selects "MirrorHouse" yX6_house yX6_house ∈ mhT := mhT1 (List.mem_of_getElem? (i := 139) rfl) rfl
theorem wd_153 : Cond.code yX6_house prog_1_method_11_code 8 (some .int) ∈ mhT := mhT1 (List.mem_of_getElem? (i := 140) rfl) rfl
theorem wd_154 : Cond.methodLink "MirrorHouse" 70 yX6_sheetAt ∈ mhT := mhT1 (List.mem_of_getElem? (i := 141) rfl) rfl
theorem wd_156 : Cond.instanceMethod yX6_sheetAt ∈ mhT := mhT1 (List.mem_of_getElem? (i := 143) rfl) rfl
theorem wd_157 : Cond.code yX6_sheetAt prog_1_method_4_code 2 (some (.object "MirrorHouse$Sheet")) ∈ mhT := mhT1 (List.mem_of_getElem? (i := 144) rfl) rfl
theorem wd_158 : Cond.methodLink "MirrorHouse" 74 yX6_isSort ∈ mhT := mhT1 (List.mem_of_getElem? (i := 145) rfl) rfl
theorem wd_159 : Cond.static yX6_isSort ∈ mhT := mhT1 (List.mem_of_getElem? (i := 146) rfl) rfl
theorem wd_160 : Cond.code yX6_isSort prog_1_method_7_code 1 (some .boolean) ∈ mhT := mhT1 (List.mem_of_getElem? (i := 147) rfl) rfl
theorem wd_161 : Cond.methodLink "MirrorHouse" 61 yX6_within ∈ mhT := mhT1 (List.mem_of_getElem? (i := 148) rfl) rfl
theorem wd_162 : Cond.static yX6_within ∈ mhT := mhT1 (List.mem_of_getElem? (i := 149) rfl) rfl
theorem wd_163 : Cond.code yX6_within prog_1_method_5_code 3 (some .boolean) ∈ mhT := mhT1 (List.mem_of_getElem? (i := 150) rfl) rfl
theorem wd_164 : Cond.methodLink "MirrorHouse" 78 yX3_faultOfRow ∈ mhT := mhT1 (List.mem_of_getElem? (i := 151) rfl) rfl
theorem wd_165 : Cond.instanceMethod yX3_faultOfRow ∈ mhT := mhT1 (List.mem_of_getElem? (i := 152) rfl) rfl
theorem wd_166 : Cond.selects "MirrorHouse$Sheet" yX3_faultOfRow yX3_faultOfRow ∈ mhT := mhT1 (List.mem_of_getElem? (i := 153) rfl) rfl
theorem wd_167 : Cond.code yX3_faultOfRow prog_5_method_7_code 4 (some .int) ∈ mhT := mhT1 (List.mem_of_getElem? (i := 154) rfl) rfl
theorem wd_168 : Cond.methodLink "MirrorHouse$Sheet" 32 yX3_canBe ∈ mhT := mhT1 (List.mem_of_getElem? (i := 155) rfl) rfl
theorem wd_169 : Cond.instanceMethod yX3_canBe ∈ mhT := mhT1 (List.mem_of_getElem? (i := 156) rfl) rfl
theorem wd_170 : Cond.selects "MirrorHouse$Sheet" yX3_canBe yX3_canBe ∈ mhT := mhT1 (List.mem_of_getElem? (i := 157) rfl) rfl
theorem wd_171 : Cond.code yX3_canBe prog_5_method_4_code 2 (some .boolean) ∈ mhT := mhT1 (List.mem_of_getElem? (i := 158) rfl) rfl
theorem wd_172 : Cond.methodLink "MirrorHouse$Sheet" 28 yX3_isNothing ∈ mhT := mhT1 (List.mem_of_getElem? (i := 159) rfl) rfl
theorem wd_173 : Cond.instanceMethod yX3_isNothing ∈ mhT := mhT1 (List.mem_of_getElem? (i := 160) rfl) rfl
theorem wd_174 : Cond.selects "MirrorHouse$Sheet" yX3_isNothing yX3_isNothing ∈ mhT := mhT1 (List.mem_of_getElem? (i := 161) rfl) rfl
theorem wd_175 : Cond.code yX3_isNothing prog_5_method_3_code 1 (some .boolean) ∈ mhT := mhT1 (List.mem_of_getElem? (i := 162) rfl) rfl
theorem wd_176 : Cond.methodLink "MirrorHouse$Sheet" 36 yX3_hasCells ∈ mhT := mhT1 (List.mem_of_getElem? (i := 163) rfl) rfl
theorem wd_177 : Cond.instanceMethod yX3_hasCells ∈ mhT := mhT1 (List.mem_of_getElem? (i := 164) rfl) rfl
theorem wd_178 : Cond.selects "MirrorHouse$Sheet" yX3_hasCells yX3_hasCells ∈ mhT := mhT1 (List.mem_of_getElem? (i := 165) rfl) rfl
theorem wd_179 : Cond.code yX3_hasCells prog_5_method_5_code 3 (some .boolean) ∈ mhT := mhT1 (List.mem_of_getElem? (i := 166) rfl) rfl
theorem wd_180 : Cond.methodLink "MirrorHouse" 82 yX6_faulted ∈ mhT := mhT1 (List.mem_of_getElem? (i := 167) rfl) rfl
theorem wd_182 : Cond.instanceMethod yX6_faulted ∈ mhT := mhT1 (List.mem_of_getElem? (i := 169) rfl) rfl
theorem wd_183 : Cond.code yX6_faulted prog_1_method_9_code 2 (some .int) ∈ mhT := mhT1 (List.mem_of_getElem? (i := 170) rfl) rfl
theorem wd_184 : Cond.methodLink "MirrorHouse" 86 yX6_firstFaultOf ∈ mhT := mhT1 (List.mem_of_getElem? (i := 171) rfl) rfl
theorem wd_185 : Cond.static yX6_firstFaultOf ∈ mhT := mhT1 (List.mem_of_getElem? (i := 172) rfl) rfl
theorem wd_186 : Cond.code yX6_firstFaultOf prog_1_method_12_code 4 (some .int) ∈ mhT := mhT1 (List.mem_of_getElem? (i := 173) rfl) rfl
theorem wd_187 : Cond.methodLink "MirrorHouse" 94 yX6_goesOn ∈ mhT := mhT1 (List.mem_of_getElem? (i := 174) rfl) rfl
theorem wd_188 : Cond.static yX6_goesOn ∈ mhT := mhT1 (List.mem_of_getElem? (i := 175) rfl) rfl
theorem wd_189 : Cond.code yX6_goesOn prog_1_method_13_code 4 (some .boolean) ∈ mhT := mhT1 (List.mem_of_getElem? (i := 176) rfl) rfl
theorem wd_190 : Cond.methodLink "MirrorHouse" 98 yX6_lettersOf ∈ mhT := mhT1 (List.mem_of_getElem? (i := 177) rfl) rfl
theorem wd_191 : Cond.static yX6_lettersOf ∈ mhT := mhT1 (List.mem_of_getElem? (i := 178) rfl) rfl
theorem wd_192 : Cond.code yX6_lettersOf prog_1_method_14_code 2 (some .int) ∈ mhT := mhT1 (List.mem_of_getElem? (i := 179) rfl) rfl
theorem wd_193 : Cond.methodLink "MirrorHouse" 108 yX6_sidesOf ∈ mhT := mhT1 (List.mem_of_getElem? (i := 180) rfl) rfl
theorem wd_194 : Cond.static yX6_sidesOf ∈ mhT := mhT1 (List.mem_of_getElem? (i := 181) rfl) rfl
theorem wd_195 : Cond.code yX6_sidesOf prog_1_method_15_code 2 (some .int) ∈ mhT := mhT1 (List.mem_of_getElem? (i := 182) rfl) rfl
theorem wd_196 : Cond.methodLink "MirrorHouse" 105 yX6_kindOf ∈ mhT := mhT1 (List.mem_of_getElem? (i := 183) rfl) rfl
theorem wd_197 : Cond.static yX6_kindOf ∈ mhT := mhT1 (List.mem_of_getElem? (i := 184) rfl) rfl
theorem wd_198 : Cond.code yX6_kindOf prog_1_method_16_code 1 (some .int) ∈ mhT := mhT1 (List.mem_of_getElem? (i := 185) rfl) rfl
theorem wd_199 : Cond.methodLink "MirrorHouse" 90 yX6_builtBy ∈ mhT := mhT1 (List.mem_of_getElem? (i := 186) rfl) rfl
theorem wd_200 : Cond.static yX6_builtBy ∈ mhT := mhT1 (List.mem_of_getElem? (i := 187) rfl) rfl
theorem wd_201 : Cond.code yX6_builtBy prog_1_method_17_code 4 (some (.object "MirrorHouse$House")) ∈ mhT := mhT1 (List.mem_of_getElem? (i := 188) rfl) rfl
theorem wd_202 : Cond.instantiable "MirrorHouse$House" 18 ∈ mhT := mhT1 (List.mem_of_getElem? (i := 189) rfl) rfl
theorem wd_203 : Cond.methodLink "MirrorHouse" 112 yX1_init ∈ mhT := mhT1 (List.mem_of_getElem? (i := 190) rfl) rfl
theorem wd_204 : Cond.instanceMethod yX1_init ∈ mhT := mhT1 (List.mem_of_getElem? (i := 191) rfl) rfl
theorem wd_205 : Cond.code yX1_init prog_3_method_1_code 5 none ∈ mhT := mhT1 (List.mem_of_getElem? (i := 192) rfl) rfl
theorem wd_206 : Cond.methodLink "MirrorHouse$House" 3 Lib.objectInit ∈ mhT := mhT1 (List.mem_of_getElem? (i := 193) rfl) rfl
theorem wd_208 : Cond.methodLink "MirrorHouse$House" 71 yX1_placeSides ∈ mhT := mhT1 (List.mem_of_getElem? (i := 195) rfl) rfl
theorem wd_210 : Cond.instanceMethod yX1_placeSides ∈ mhT := mhT1 (List.mem_of_getElem? (i := 197) rfl) rfl
theorem wd_211 : Cond.code yX1_placeSides prog_3_method_3_code 4 none ∈ mhT := mhT1 (List.mem_of_getElem? (i := 198) rfl) rfl
theorem wd_212 : Cond.methodLink "MirrorHouse$House" 78 yX1_place ∈ mhT := mhT1 (List.mem_of_getElem? (i := 199) rfl) rfl
theorem wd_214 : Cond.instanceMethod yX1_place ∈ mhT := mhT1 (List.mem_of_getElem? (i := 201) rfl) rfl
theorem wd_215 : Cond.code yX1_place prog_3_method_4_code 5 none ∈ mhT := mhT1 (List.mem_of_getElem? (i := 202) rfl) rfl
theorem wd_216 : Cond.methodLink "MirrorHouse$House" 75 yX1_second ∈ mhT := mhT1 (List.mem_of_getElem? (i := 203) rfl) rfl
theorem wd_218 : Cond.instanceMethod yX1_second ∈ mhT := mhT1 (List.mem_of_getElem? (i := 205) rfl) rfl
theorem wd_219 : Cond.code yX1_second prog_3_method_2_code 3 (some .int) ∈ mhT := mhT1 (List.mem_of_getElem? (i := 206) rfl) rfl
theorem wd_220 : Cond.fieldLink "MirrorHouse$House" 55 "MirrorHouse$House" "w" "I" ∈ mhT := mhT1 (List.mem_of_getElem? (i := 207) rfl) rfl
theorem wd_221 : Cond.fieldLink "MirrorHouse$House" 58 "MirrorHouse$House" "h" "I" ∈ mhT := mhT1 (List.mem_of_getElem? (i := 208) rfl) rfl
theorem wd_222 : Cond.fieldLink "MirrorHouse$House" 61 "MirrorHouse$House" "rooms" "I" ∈ mhT := mhT1 (List.mem_of_getElem? (i := 209) rfl) rfl
theorem wd_223 : Cond.fieldLink "MirrorHouse$House" 68 "MirrorHouse$House" "sides" "I" ∈ mhT := mhT1 (List.mem_of_getElem? (i := 210) rfl) rfl
theorem wd_224 : Cond.fieldLink "MirrorHouse" 115 "MirrorHouse$House" "sides" "I" ∈ mhT := mhT1 (List.mem_of_getElem? (i := 211) rfl) rfl
theorem wd_225 : Cond.fieldLink "MirrorHouse$House" 9 "MirrorHouse$House" "panes" "[I" ∈ mhT := mhT1 (List.mem_of_getElem? (i := 212) rfl) rfl
theorem wd_226 : Cond.fieldLink "MirrorHouse$Sight" 67 "MirrorHouse$House" "panes" "[I" ∈ mhT := mhT1 (List.mem_of_getElem? (i := 213) rfl) rfl
theorem wd_227 : Cond.fieldLink "MirrorHouse" 118 "MirrorHouse$House" "panes" "[I" ∈ mhT := mhT1 (List.mem_of_getElem? (i := 214) rfl) rfl
theorem wd_228 : Cond.fieldLink "MirrorHouse$House" 15 "MirrorHouse$House" "smeared" "[I" ∈ mhT := mhT1 (List.mem_of_getElem? (i := 215) rfl) rfl
theorem wd_229 : Cond.fieldLink "MirrorHouse$House" 18 "MirrorHouse$House" "wayOf" "[I" ∈ mhT := mhT1 (List.mem_of_getElem? (i := 216) rfl) rfl
theorem wd_230 : Cond.fieldLink "MirrorHouse$House" 21 "MirrorHouse$House" "evenBy" "[I" ∈ mhT := mhT1 (List.mem_of_getElem? (i := 217) rfl) rfl
theorem wd_231 : Cond.fieldLink "MirrorHouse$House" 24 "MirrorHouse$House" "oddBy" "[I" ∈ mhT := mhT1 (List.mem_of_getElem? (i := 218) rfl) rfl
theorem wd_232 : Cond.fieldLink "MirrorHouse$House" 27 "MirrorHouse$House" "firstToOpen" "I" ∈ mhT := mhT1 (List.mem_of_getElem? (i := 219) rfl) rfl
theorem wd_233 : Cond.fieldLink "MirrorHouse$House" 31 "MirrorHouse$House" "secondToOpen" "I" ∈ mhT := mhT1 (List.mem_of_getElem? (i := 220) rfl) rfl
theorem wd_234 : Cond.fieldLink "MirrorHouse$House" 34 "MirrorHouse$House" "keptTicks" "I" ∈ mhT := mhT1 (List.mem_of_getElem? (i := 221) rfl) rfl
theorem wd_235 : Cond.fieldLink "MirrorHouse$House" 37 "MirrorHouse$House" "keptBy" "I" ∈ mhT := mhT1 (List.mem_of_getElem? (i := 222) rfl) rfl
theorem wd_236 : Cond.fieldLink "MirrorHouse$House" 40 "MirrorHouse$House" "sidesBy" "[I" ∈ mhT := mhT1 (List.mem_of_getElem? (i := 223) rfl) rfl
theorem wd_237 : Cond.fieldLink "MirrorHouse$House" 43 "MirrorHouse$House" "trial" "[I" ∈ mhT := mhT1 (List.mem_of_getElem? (i := 224) rfl) rfl
theorem wd_238 : Cond.fieldLink "MirrorHouse$House" 46 "MirrorHouse$House" "opens" "[I" ∈ mhT := mhT1 (List.mem_of_getElem? (i := 225) rfl) rfl
theorem wd_239 : Cond.fieldLink "MirrorHouse$House" 49 "MirrorHouse$House" "opensNow" "[I" ∈ mhT := mhT1 (List.mem_of_getElem? (i := 226) rfl) rfl
theorem wd_240 : Cond.fieldLink "MirrorHouse$House" 52 "MirrorHouse$House" "toOdd" "[I" ∈ mhT := mhT1 (List.mem_of_getElem? (i := 227) rfl) rfl
theorem wd_278 : Cond.methodLink "MirrorHouseLaw" 70 yX6_pane ∈ mhT := mhT2 (List.mem_of_getElem? (i := 25) rfl) rfl
theorem wd_279 : Cond.instanceMethod yX6_pane ∈ mhT := mhT2 (List.mem_of_getElem? (i := 26) rfl) rfl
theorem wd_280 : Cond.selects "MirrorHouse" yX6_pane yX6_pane ∈ mhT := mhT2 (List.mem_of_getElem? (i := 27) rfl) rfl
theorem wd_281 : Cond.code yX6_pane prog_1_method_21_code 5 (some .int) ∈ mhT := mhT2 (List.mem_of_getElem? (i := 28) rfl) rfl
theorem wd_282 : Cond.methodLink "MirrorHouse" 121 yX6_houseAt ∈ mhT := mhT2 (List.mem_of_getElem? (i := 29) rfl) rfl
theorem wd_284 : Cond.instanceMethod yX6_houseAt ∈ mhT := mhT2 (List.mem_of_getElem? (i := 31) rfl) rfl
theorem wd_285 : Cond.code yX6_houseAt prog_1_method_2_code 2 (some (.object "MirrorHouse$House")) ∈ mhT := mhT2 (List.mem_of_getElem? (i := 32) rfl) rfl
theorem wd_286 : Cond.methodLink "MirrorHouse" 141 yX1_hasSide ∈ mhT := mhT2 (List.mem_of_getElem? (i := 33) rfl) rfl
theorem wd_287 : Cond.instanceMethod yX1_hasSide ∈ mhT := mhT2 (List.mem_of_getElem? (i := 34) rfl) rfl
theorem wd_288 : Cond.selects "MirrorHouse$House" yX1_hasSide yX1_hasSide ∈ mhT := mhT2 (List.mem_of_getElem? (i := 35) rfl) rfl
theorem wd_289 : Cond.code yX1_hasSide prog_3_method_6_code 2 (some .boolean) ∈ mhT := mhT2 (List.mem_of_getElem? (i := 36) rfl) rfl
theorem wd_291 : Cond.methodLink "MirrorHouse" 165 yX1_become ∈ mhT := mhT2 (List.mem_of_getElem? (i := 38) rfl) rfl
theorem wd_292 : Cond.instanceMethod yX1_become ∈ mhT := mhT2 (List.mem_of_getElem? (i := 39) rfl) rfl
theorem wd_293 : Cond.selects "MirrorHouse$House" yX1_become yX1_become ∈ mhT := mhT2 (List.mem_of_getElem? (i := 40) rfl) rfl
theorem wd_294 : Cond.code yX1_become prog_3_method_12_code 4 (some .int) ∈ mhT := mhT2 (List.mem_of_getElem? (i := 41) rfl) rfl
theorem wd_295 : Cond.methodLink "MirrorHouseLaw" 47 yX6_seen ∈ mhT := mhT2 (List.mem_of_getElem? (i := 42) rfl) rfl
theorem wd_296 : Cond.instanceMethod yX6_seen ∈ mhT := mhT2 (List.mem_of_getElem? (i := 43) rfl) rfl
theorem wd_297 : Cond.selects "MirrorHouse" yX6_seen yX6_seen ∈ mhT := mhT2 (List.mem_of_getElem? (i := 44) rfl) rfl
theorem wd_298 : Cond.code yX6_seen prog_1_method_22_code 8 (some .int) ∈ mhT := mhT2 (List.mem_of_getElem? (i := 45) rfl) rfl
theorem wd_299 : Cond.methodLink "MirrorHouse" 156 yX1_hasRoom ∈ mhT := mhT2 (List.mem_of_getElem? (i := 46) rfl) rfl
theorem wd_300 : Cond.instanceMethod yX1_hasRoom ∈ mhT := mhT2 (List.mem_of_getElem? (i := 47) rfl) rfl
theorem wd_301 : Cond.selects "MirrorHouse$House" yX1_hasRoom yX1_hasRoom ∈ mhT := mhT2 (List.mem_of_getElem? (i := 48) rfl) rfl
theorem wd_302 : Cond.code yX1_hasRoom prog_3_method_5_code 2 (some .boolean) ∈ mhT := mhT2 (List.mem_of_getElem? (i := 49) rfl) rfl
theorem wd_303 : Cond.methodLink "MirrorHouse" 168 yX6_isTurn ∈ mhT := mhT2 (List.mem_of_getElem? (i := 50) rfl) rfl
theorem wd_304 : Cond.static yX6_isTurn ∈ mhT := mhT2 (List.mem_of_getElem? (i := 51) rfl) rfl
theorem wd_305 : Cond.code yX6_isTurn prog_1_method_8_code 2 (some .boolean) ∈ mhT := mhT2 (List.mem_of_getElem? (i := 52) rfl) rfl
theorem wd_306 : Cond.methodLink "MirrorHouse" 172 yX4_look ∈ mhT := mhT2 (List.mem_of_getElem? (i := 53) rfl) rfl
theorem wd_307 : Cond.instanceMethod yX4_look ∈ mhT := mhT2 (List.mem_of_getElem? (i := 54) rfl) rfl
theorem wd_308 : Cond.selects "MirrorHouse$Sight" yX4_look yX4_look ∈ mhT := mhT2 (List.mem_of_getElem? (i := 55) rfl) rfl
theorem wd_309 : Cond.code yX4_look prog_6_method_2_code 7 none ∈ mhT := mhT2 (List.mem_of_getElem? (i := 56) rfl) rfl
theorem wd_310 : Cond.methodLink "MirrorHouse$Sight" 21 yX4_setOut ∈ mhT := mhT2 (List.mem_of_getElem? (i := 57) rfl) rfl
theorem wd_312 : Cond.instanceMethod yX4_setOut ∈ mhT := mhT2 (List.mem_of_getElem? (i := 59) rfl) rfl
theorem wd_313 : Cond.code yX4_setOut prog_6_method_3_code 5 none ∈ mhT := mhT2 (List.mem_of_getElem? (i := 60) rfl) rfl
theorem wd_314 : Cond.methodLink "MirrorHouse$Sight" 45 yX4_thirdsIn ∈ mhT := mhT2 (List.mem_of_getElem? (i := 61) rfl) rfl
theorem wd_315 : Cond.static yX4_thirdsIn ∈ mhT := mhT2 (List.mem_of_getElem? (i := 62) rfl) rfl
theorem wd_316 : Cond.code yX4_thirdsIn prog_6_method_4_code 1 (some .int) ∈ mhT := mhT2 (List.mem_of_getElem? (i := 63) rfl) rfl
theorem wd_317 : Cond.methodLink "MirrorHouse$Sight" 49 yX4_aim ∈ mhT := mhT2 (List.mem_of_getElem? (i := 64) rfl) rfl
theorem wd_319 : Cond.instanceMethod yX4_aim ∈ mhT := mhT2 (List.mem_of_getElem? (i := 66) rfl) rfl
theorem wd_320 : Cond.code yX4_aim prog_6_method_5_code 5 none ∈ mhT := mhT2 (List.mem_of_getElem? (i := 67) rfl) rfl
theorem wd_321 : Cond.methodLink "MirrorHouse$Sight" 52 Lib.Math.abs.name ∈ mhT := mhT2 (List.mem_of_getElem? (i := 68) rfl) rfl
theorem wd_322 : Cond.static Lib.Math.abs.name ∈ mhT := mhT2 (List.mem_of_getElem? (i := 69) rfl) rfl
theorem wd_323 : Cond.code Lib.Math.abs.name Lib.Math.abs.code 1 (some .int) ∈ mhT := mhT2 (List.mem_of_getElem? (i := 70) rfl) rfl
theorem wd_324 : Cond.methodLink "MirrorHouse$Sight" 29 yX4_goOn ∈ mhT := mhT2 (List.mem_of_getElem? (i := 71) rfl) rfl
theorem wd_326 : Cond.instanceMethod yX4_goOn ∈ mhT := mhT2 (List.mem_of_getElem? (i := 73) rfl) rfl
theorem wd_327 : Cond.code yX4_goOn prog_6_method_6_code 4 none ∈ mhT := mhT2 (List.mem_of_getElem? (i := 74) rfl) rfl
theorem wd_328 : Cond.methodLink "MirrorHouse$Sight" 57 yX4_nextWay ∈ mhT := mhT2 (List.mem_of_getElem? (i := 75) rfl) rfl
theorem wd_330 : Cond.instanceMethod yX4_nextWay ∈ mhT := mhT2 (List.mem_of_getElem? (i := 77) rfl) rfl
theorem wd_331 : Cond.code yX4_nextWay prog_6_method_7_code 5 (some .int) ∈ mhT := mhT2 (List.mem_of_getElem? (i := 78) rfl) rfl
theorem wd_332 : Cond.methodLink "MirrorHouse$Sight" 61 yX1_sideOf ∈ mhT := mhT2 (List.mem_of_getElem? (i := 79) rfl) rfl
theorem wd_333 : Cond.instanceMethod yX1_sideOf ∈ mhT := mhT2 (List.mem_of_getElem? (i := 80) rfl) rfl
theorem wd_334 : Cond.selects "MirrorHouse$House" yX1_sideOf yX1_sideOf ∈ mhT := mhT2 (List.mem_of_getElem? (i := 81) rfl) rfl
theorem wd_335 : Cond.code yX1_sideOf prog_3_method_8_code 3 (some .int) ∈ mhT := mhT2 (List.mem_of_getElem? (i := 82) rfl) rfl
theorem wd_336 : Cond.methodLink "MirrorHouse$Sight" 70 yX4_foldOver ∈ mhT := mhT2 (List.mem_of_getElem? (i := 83) rfl) rfl
theorem wd_338 : Cond.instanceMethod yX4_foldOver ∈ mhT := mhT2 (List.mem_of_getElem? (i := 85) rfl) rfl
theorem wd_339 : Cond.code yX4_foldOver prog_6_method_8_code 5 none ∈ mhT := mhT2 (List.mem_of_getElem? (i := 86) rfl) rfl
theorem wd_340 : Cond.methodLink "MirrorHouse$Sight" 74 yX1_behind ∈ mhT := mhT2 (List.mem_of_getElem? (i := 87) rfl) rfl
theorem wd_341 : Cond.instanceMethod yX1_behind ∈ mhT := mhT2 (List.mem_of_getElem? (i := 88) rfl) rfl
theorem wd_342 : Cond.selects "MirrorHouse$House" yX1_behind yX1_behind ∈ mhT := mhT2 (List.mem_of_getElem? (i := 89) rfl) rfl
theorem wd_343 : Cond.code yX1_behind prog_3_method_9_code 4 (some .int) ∈ mhT := mhT2 (List.mem_of_getElem? (i := 90) rfl) rfl
theorem wd_344 : Cond.methodLink "MirrorHouse$House" 86 yX1_sideOf ∈ mhT := mhT2 (List.mem_of_getElem? (i := 91) rfl) rfl
theorem wd_345 : Cond.methodLink "MirrorHouseLaw" 51 yX6_met ∈ mhT := mhT2 (List.mem_of_getElem? (i := 92) rfl) rfl
theorem wd_346 : Cond.instanceMethod yX6_met ∈ mhT := mhT2 (List.mem_of_getElem? (i := 93) rfl) rfl
theorem wd_347 : Cond.selects "MirrorHouse" yX6_met yX6_met ∈ mhT := mhT2 (List.mem_of_getElem? (i := 94) rfl) rfl
theorem wd_348 : Cond.code yX6_met prog_1_method_23_code 7 (some .int) ∈ mhT := mhT2 (List.mem_of_getElem? (i := 95) rfl) rfl
theorem wd_349 : Cond.methodLink "MirrorHouseLaw" 55 yX6_image ∈ mhT := mhT2 (List.mem_of_getElem? (i := 96) rfl) rfl
theorem wd_350 : Cond.instanceMethod yX6_image ∈ mhT := mhT2 (List.mem_of_getElem? (i := 97) rfl) rfl
theorem wd_351 : Cond.selects "MirrorHouse" yX6_image yX6_image ∈ mhT := mhT2 (List.mem_of_getElem? (i := 98) rfl) rfl
theorem wd_352 : Cond.code yX6_image prog_1_method_24_code 6 (some .int) ∈ mhT := mhT2 (List.mem_of_getElem? (i := 99) rfl) rfl
theorem wd_353 : Cond.methodLink "MirrorHouse" 191 yX4_imageBy ∈ mhT := mhT2 (List.mem_of_getElem? (i := 100) rfl) rfl
theorem wd_354 : Cond.instanceMethod yX4_imageBy ∈ mhT := mhT2 (List.mem_of_getElem? (i := 101) rfl) rfl
theorem wd_355 : Cond.selects "MirrorHouse$Sight" yX4_imageBy yX4_imageBy ∈ mhT := mhT2 (List.mem_of_getElem? (i := 102) rfl) rfl
theorem wd_356 : Cond.code yX4_imageBy prog_6_method_9_code 8 (some .int) ∈ mhT := mhT2 (List.mem_of_getElem? (i := 103) rfl) rfl
theorem wd_357 : Cond.methodLink "MirrorHouse$Sight" 77 yJ9_floorMod_7cf53 ∈ mhT := mhT2 (List.mem_of_getElem? (i := 104) rfl) rfl
theorem wd_358 : Cond.static yJ9_floorMod_7cf53 ∈ mhT := mhT2 (List.mem_of_getElem? (i := 105) rfl) rfl
theorem wd_359 : Cond.code yJ9_floorMod_7cf53 prog_10_method_50_code 3 (some .int) ∈ mhT := mhT2 (List.mem_of_getElem? (i := 106) rfl) rfl
theorem wd_360 : Cond.methodLink "MirrorHouse$Sight" 80 yX4_crossesMore ∈ mhT := mhT2 (List.mem_of_getElem? (i := 107) rfl) rfl
theorem wd_362 : Cond.instanceMethod yX4_crossesMore ∈ mhT := mhT2 (List.mem_of_getElem? (i := 109) rfl) rfl
theorem wd_363 : Cond.code yX4_crossesMore prog_6_method_10_code 2 (some .boolean) ∈ mhT := mhT2 (List.mem_of_getElem? (i := 110) rfl) rfl
theorem wd_364 : Cond.methodLink "MirrorHouseLaw" 62 yX6_report ∈ mhT := mhT2 (List.mem_of_getElem? (i := 111) rfl) rfl
theorem wd_365 : Cond.instanceMethod yX6_report ∈ mhT := mhT2 (List.mem_of_getElem? (i := 112) rfl) rfl
theorem wd_366 : Cond.selects "MirrorHouse" yX6_report yX6_report ∈ mhT := mhT2 (List.mem_of_getElem? (i := 113) rfl) rfl
theorem wd_367 : Cond.code yX6_report prog_1_method_26_code 7 (some .int) ∈ mhT := mhT2 (List.mem_of_getElem? (i := 114) rfl) rfl
theorem wd_368 : Cond.instantiable "MirrorHouse$Report" 5 ∈ mhT := mhT2 (List.mem_of_getElem? (i := 115) rfl) rfl
theorem wd_369 : Cond.methodLink "MirrorHouse" 211 yX2_init ∈ mhT := mhT2 (List.mem_of_getElem? (i := 116) rfl) rfl
theorem wd_370 : Cond.instanceMethod yX2_init ∈ mhT := mhT2 (List.mem_of_getElem? (i := 117) rfl) rfl
theorem wd_371 : Cond.code yX2_init prog_4_method_1_code 6 none ∈ mhT := mhT2 (List.mem_of_getElem? (i := 118) rfl) rfl
theorem wd_372 : Cond.methodLink "MirrorHouse$Report" 1 Lib.objectInit ∈ mhT := mhT2 (List.mem_of_getElem? (i := 119) rfl) rfl
theorem wd_373 : Cond.fieldLink "MirrorHouse$Report" 7 "MirrorHouse$Report" "houseNumber" "I" ∈ mhT := mhT2 (List.mem_of_getElem? (i := 120) rfl) rfl
theorem wd_374 : Cond.fieldLink "MirrorHouse" 217 "MirrorHouse$Report" "houseNumber" "I" ∈ mhT := mhT2 (List.mem_of_getElem? (i := 121) rfl) rfl
theorem wd_375 : Cond.fieldLink "MirrorHouse$Report" 13 "MirrorHouse$Report" "room" "I" ∈ mhT := mhT2 (List.mem_of_getElem? (i := 122) rfl) rfl
theorem wd_376 : Cond.fieldLink "MirrorHouse" 224 "MirrorHouse$Report" "room" "I" ∈ mhT := mhT2 (List.mem_of_getElem? (i := 123) rfl) rfl
theorem wd_377 : Cond.fieldLink "MirrorHouse$Report" 16 "MirrorHouse$Report" "p" "I" ∈ mhT := mhT2 (List.mem_of_getElem? (i := 124) rfl) rfl
theorem wd_378 : Cond.fieldLink "MirrorHouse" 225 "MirrorHouse$Report" "p" "I" ∈ mhT := mhT2 (List.mem_of_getElem? (i := 125) rfl) rfl
theorem wd_379 : Cond.fieldLink "MirrorHouse$Report" 19 "MirrorHouse$Report" "q" "I" ∈ mhT := mhT2 (List.mem_of_getElem? (i := 126) rfl) rfl
theorem wd_380 : Cond.fieldLink "MirrorHouse" 228 "MirrorHouse$Report" "q" "I" ∈ mhT := mhT2 (List.mem_of_getElem? (i := 127) rfl) rfl
theorem wd_381 : Cond.fieldLink "MirrorHouse$Report" 22 "MirrorHouse$Report" "saw" "Z" ∈ mhT := mhT2 (List.mem_of_getElem? (i := 128) rfl) rfl
theorem wd_382 : Cond.fieldLink "MirrorHouse" 231 "MirrorHouse$Report" "saw" "Z" ∈ mhT := mhT2 (List.mem_of_getElem? (i := 129) rfl) rfl
theorem wd_394 : Cond.methodLink "MirrorHouseLaw" 66 yX6_spots ∈ mhT := mhT2 (List.mem_of_getElem? (i := 141) rfl) rfl
theorem wd_395 : Cond.instanceMethod yX6_spots ∈ mhT := mhT2 (List.mem_of_getElem? (i := 142) rfl) rfl
theorem wd_396 : Cond.selects "MirrorHouse" yX6_spots yX6_spots ∈ mhT := mhT2 (List.mem_of_getElem? (i := 143) rfl) rfl
theorem wd_397 : Cond.code yX6_spots prog_1_method_27_code 6 (some .int) ∈ mhT := mhT2 (List.mem_of_getElem? (i := 144) rfl) rfl
theorem wd_398 : Cond.methodLink "MirrorHouse" 214 yX1_allRooms ∈ mhT := mhT2 (List.mem_of_getElem? (i := 145) rfl) rfl
theorem wd_399 : Cond.instanceMethod yX1_allRooms ∈ mhT := mhT2 (List.mem_of_getElem? (i := 146) rfl) rfl
theorem wd_400 : Cond.selects "MirrorHouse$House" yX1_allRooms yX1_allRooms ∈ mhT := mhT2 (List.mem_of_getElem? (i := 147) rfl) rfl
theorem wd_401 : Cond.code yX1_allRooms prog_3_method_7_code 1 (some .int) ∈ mhT := mhT2 (List.mem_of_getElem? (i := 148) rfl) rfl
theorem wd_402 : Cond.methodLink "MirrorHouse" 220 yX6_fits ∈ mhT := mhT2 (List.mem_of_getElem? (i := 149) rfl) rfl
theorem wd_404 : Cond.instanceMethod yX6_fits ∈ mhT := mhT2 (List.mem_of_getElem? (i := 151) rfl) rfl
theorem wd_405 : Cond.code yX6_fits prog_1_method_28_code 5 (some .int) ∈ mhT := mhT2 (List.mem_of_getElem? (i := 152) rfl) rfl
theorem wd_406 : Cond.methodLink "MirrorHouseLaw" 9 yL_cell ∈ mhT := mhT2 (List.mem_of_getElem? (i := 153) rfl) rfl
theorem wd_407 : Cond.static yL_cell ∈ mhT := mhT2 (List.mem_of_getElem? (i := 154) rfl) rfl
theorem wd_408 : Cond.code yL_cell method_2_code 2 (some .int) ∈ mhT := mhT2 (List.mem_of_getElem? (i := 155) rfl) rfl
theorem wd_410 : Cond.methodLink "MirrorHouseLaw" 15 yL_some ∈ mhT := mhT2 (List.mem_of_getElem? (i := 157) rfl) rfl
theorem wd_411 : Cond.static yL_some ∈ mhT := mhT2 (List.mem_of_getElem? (i := 158) rfl) rfl
theorem wd_412 : Cond.code yL_some method_3_code 2 (some .int) ∈ mhT := mhT2 (List.mem_of_getElem? (i := 159) rfl) rfl
theorem wd_414 : Cond.methodLink "MirrorHouseLaw" 40 yL_put ∈ mhT := mhT2 (List.mem_of_getElem? (i := 161) rfl) rfl
theorem wd_415 : Cond.static yL_put ∈ mhT := mhT2 (List.mem_of_getElem? (i := 162) rfl) rfl
theorem wd_416 : Cond.code yL_put method_4_code 10 (some .int) ∈ mhT := mhT2 (List.mem_of_getElem? (i := 163) rfl) rfl
theorem wd_417 : Cond.methodLink "MirrorHouseLaw" 19 yX6_sheet ∈ mhT := mhT2 (List.mem_of_getElem? (i := 164) rfl) rfl
theorem wd_418 : Cond.instanceMethod yX6_sheet ∈ mhT := mhT2 (List.mem_of_getElem? (i := 165) rfl) rfl
theorem wd_419 : Cond.selects "MirrorHouse" yX6_sheet yX6_sheet ∈ mhT := mhT2 (List.mem_of_getElem? (i := 166) rfl) rfl
theorem wd_420 : Cond.code yX6_sheet prog_1_method_45_code 5 (some .int) ∈ mhT := mhT2 (List.mem_of_getElem? (i := 167) rfl) rfl
theorem wd_421 : Cond.methodLink "MirrorHouse" 330 yX3_renew ∈ mhT := mhT2 (List.mem_of_getElem? (i := 168) rfl) rfl
theorem wd_422 : Cond.instanceMethod yX3_renew ∈ mhT := mhT2 (List.mem_of_getElem? (i := 169) rfl) rfl
theorem wd_423 : Cond.selects "MirrorHouse$Sheet" yX3_renew yX3_renew ∈ mhT := mhT2 (List.mem_of_getElem? (i := 170) rfl) rfl
theorem wd_424 : Cond.code yX3_renew prog_5_method_2_code 3 none ∈ mhT := mhT2 (List.mem_of_getElem? (i := 171) rfl) rfl
theorem wd_425 : Cond.methodLink "MirrorHouse$Sheet" 22 yJ7_fill_53178 ∈ mhT := mhT2 (List.mem_of_getElem? (i := 172) rfl) rfl
theorem wd_426 : Cond.static yJ7_fill_53178 ∈ mhT := mhT2 (List.mem_of_getElem? (i := 173) rfl) rfl
theorem wd_427 : Cond.code yJ7_fill_53178 prog_11_method_103_code 4 none ∈ mhT := mhT2 (List.mem_of_getElem? (i := 174) rfl) rfl
theorem wd_428 : Cond.methodLink "MirrorHouseLaw" 25 yX6_put ∈ mhT := mhT2 (List.mem_of_getElem? (i := 175) rfl) rfl
theorem wd_429 : Cond.instanceMethod yX6_put ∈ mhT := mhT2 (List.mem_of_getElem? (i := 176) rfl) rfl
theorem wd_430 : Cond.selects "MirrorHouse" yX6_put yX6_put ∈ mhT := mhT2 (List.mem_of_getElem? (i := 177) rfl) rfl
theorem wd_431 : Cond.code yX6_put prog_1_method_47_code 5 (some .int) ∈ mhT := mhT2 (List.mem_of_getElem? (i := 178) rfl) rfl
theorem wd_432 : Cond.methodLink "MirrorHouse" 333 yX3_isNothing ∈ mhT := mhT2 (List.mem_of_getElem? (i := 179) rfl) rfl
theorem wd_433 : Cond.methodLink "MirrorHouse" 339 yX3_cut ∈ mhT := mhT2 (List.mem_of_getElem? (i := 180) rfl) rfl
theorem wd_434 : Cond.instanceMethod yX3_cut ∈ mhT := mhT2 (List.mem_of_getElem? (i := 181) rfl) rfl
theorem wd_435 : Cond.selects "MirrorHouse$Sheet" yX3_cut yX3_cut ∈ mhT := mhT2 (List.mem_of_getElem? (i := 182) rfl) rfl
theorem wd_436 : Cond.code yX3_cut prog_5_method_6_code 2 (some .int) ∈ mhT := mhT2 (List.mem_of_getElem? (i := 183) rfl) rfl
theorem wd_437 : Cond.methodLink "MirrorHouseLaw" 58 yL_go ∈ mhT := mhT2 (List.mem_of_getElem? (i := 184) rfl) rfl
theorem wd_438 : Cond.static yL_go ∈ mhT := mhT2 (List.mem_of_getElem? (i := 185) rfl) rfl
theorem wd_439 : Cond.code yL_go method_7_code 39 (some .int) ∈ mhT := mhT2 (List.mem_of_getElem? (i := 186) rfl) rfl
theorem wd_440 : Cond.constantLong "MirrorHouseLaw" 32 (3) ∈ mhT := mhT2 (List.mem_of_getElem? (i := 187) rfl) rfl
theorem wd_441 : Cond.methodLink "MirrorHouseLaw" 28 yL_side ∈ mhT := mhT2 (List.mem_of_getElem? (i := 188) rfl) rfl
theorem wd_442 : Cond.static yL_side ∈ mhT := mhT2 (List.mem_of_getElem? (i := 189) rfl) rfl
theorem wd_443 : Cond.code yL_side method_5_code 6 (some .int) ∈ mhT := mhT2 (List.mem_of_getElem? (i := 190) rfl) rfl
theorem wd_444 : Cond.methodLink "MirrorHouseLaw" 34 yL_behind ∈ mhT := mhT2 (List.mem_of_getElem? (i := 191) rfl) rfl
theorem wd_445 : Cond.static yL_behind ∈ mhT := mhT2 (List.mem_of_getElem? (i := 192) rfl) rfl
theorem wd_446 : Cond.code yL_behind method_6_code 5 (some .int) ∈ mhT := mhT2 (List.mem_of_getElem? (i := 193) rfl) rfl
theorem wd_447 : Cond.constantLong "MirrorHouseLaw" 37 (2) ∈ mhT := mhT2 (List.mem_of_getElem? (i := 194) rfl) rfl
