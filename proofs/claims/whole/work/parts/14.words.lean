def mX0_init : mhM := (yX0_init, cX0_init, 1, none, { frames := 1, cells := 2, slots := 1034, locals := 20 })
def mX0_compare : mhM := (yX0_compare, cX0_compare, 4, some .boolean, { frames := 0, cells := 0, slots := 0, locals := 0 })
def mX0_rowsBehind : mhM := (yX0_rowsBehind, cX0_rowsBehind, 4, some .int, { frames := 0, cells := 0, slots := 0, locals := 0 })
def mJ7_fill_53178 : mhM := (yJ7_fill_53178, cJ7_fill_53178, 4, none, { frames := 0, cells := 0, slots := 0, locals := 0 })
def mX1_openAlso : mhM := (yX1_openAlso, cX1_openAlso, 2, none, { frames := 0, cells := 0, slots := 0, locals := 0 })
def mX1_openBy : mhM := (yX1_openBy, cX1_openBy, 3, none, { frames := 1, cells := 0, slots := 0, locals := 23 })
def mX1_moved : mhM := (yX1_moved, cX1_moved, 2, some .int, { frames := 0, cells := 0, slots := 0, locals := 0 })
def mX1_widened : mhM := (yX1_widened, cX1_widened, 6, some .int, { frames := 1, cells := 0, slots := 0, locals := 21 })
def mX1_roomsWithin : mhM := (yX1_roomsWithin, cX1_roomsWithin, 5, some .int, { frames := 2, cells := 0, slots := 0, locals := 46 })
def mX1_allRooms : mhM := (yX1_allRooms, cX1_allRooms, 1, some .int, { frames := 0, cells := 0, slots := 0, locals := 0 })
def mX1_isTrialFair : mhM := (yX1_isTrialFair, cX1_isTrialFair, 1, some .boolean, { frames := 3, cells := 0, slots := 0, locals := 70 })
def mX1_isFairWith : mhM := (yX1_isFairWith, cX1_isFairWith, 6, some .boolean, { frames := 4, cells := 0, slots := 0, locals := 90 })
def mX0_countRows : mhM := (yX0_countRows, cX0_countRows, 6, some .int, { frames := 5, cells := 0, slots := 0, locals := 115 })
def mX0_firstThatGoesOn : mhM := (yX0_firstThatGoesOn, cX0_firstThatGoesOn, 3, some .int, { frames := 0, cells := 0, slots := 0, locals := 0 })
def mX0_ofFirstRow : mhM := (yX0_ofFirstRow, cX0_ofFirstRow, 6, some .int, { frames := 1, cells := 0, slots := 0, locals := 22 })
def mX6_sidesOf : mhM := (yX6_sidesOf, cX6_sidesOf, 2, some .int, { frames := 0, cells := 0, slots := 0, locals := 0 })
def mX1_place : mhM := (yX1_place, cX1_place, 5, none, { frames := 0, cells := 0, slots := 0, locals := 0 })
def mX1_second : mhM := (yX1_second, cX1_second, 3, some .int, { frames := 0, cells := 0, slots := 0, locals := 0 })
def mX1_placeSides : mhM := (yX1_placeSides, cX1_placeSides, 4, none, { frames := 1, cells := 0, slots := 0, locals := 24 })
def mX1_init : mhM := (yX1_init, cX1_init, 5, none, { frames := 2, cells := 10, slots := 341, locals := 47 })
def mX6_within : mhM := (yX6_within, cX6_within, 3, some .boolean, { frames := 0, cells := 0, slots := 0, locals := 0 })
def mX1_hasRoom : mhM := (yX1_hasRoom, cX1_hasRoom, 2, some .boolean, { frames := 1, cells := 0, slots := 0, locals := 22 })
def mX1_hasSide : mhM := (yX1_hasSide, cX1_hasSide, 2, some .boolean, { frames := 1, cells := 0, slots := 0, locals := 22 })
def mX1_sideOf : mhM := (yX1_sideOf, cX1_sideOf, 3, some .int, { frames := 0, cells := 0, slots := 0, locals := 0 })
def mX1_behind : mhM := (yX1_behind, cX1_behind, 4, some .int, { frames := 1, cells := 0, slots := 0, locals := 22 })
def mX1_panesOf : mhM := (yX1_panesOf, cX1_panesOf, 4, some .int, { frames := 0, cells := 0, slots := 0, locals := 0 })
def mX1_smears : mhM := (yX1_smears, cX1_smears, 3, some .int, { frames := 0, cells := 0, slots := 0, locals := 0 })
def mX1_become : mhM := (yX1_become, cX1_become, 4, some .int, { frames := 0, cells := 0, slots := 0, locals := 0 })
def mX1_howFar : mhM := (yX1_howFar, cX1_howFar, 3, some .int, { frames := 3, cells := 0, slots := 0, locals := 70 })
def mX1_firstShut : mhM := (yX1_firstShut, cX1_firstShut, 3, some .int, { frames := 3, cells := 0, slots := 0, locals := 70 })
def mX1_isNearWith : mhM := (yX1_isNearWith, cX1_isNearWith, 4, some .boolean, { frames := 3, cells := 0, slots := 0, locals := 70 })
def mX1_findTwo : mhM := (yX1_findTwo, cX1_findTwo, 4, some .boolean, { frames := 4, cells := 0, slots := 0, locals := 93 })
def mX1_fewestToOpen : mhM := (yX1_fewestToOpen, cX1_fewestToOpen, 3, some .int, { frames := 5, cells := 0, slots := 0, locals := 116 })
def mX1_handWay : mhM := (yX1_handWay, cX1_handWay, 3, some .int, { frames := 0, cells := 0, slots := 0, locals := 0 })
def mX1_firstOpen : mhM := (yX1_firstOpen, cX1_firstOpen, 6, some .int, { frames := 1, cells := 0, slots := 0, locals := 22 })
def mX1_ticksOfBlind : mhM := (yX1_ticksOfBlind, cX1_ticksOfBlind, 6, some .int, { frames := 2, cells := 0, slots := 0, locals := 47 })
def mX1_keepLongest : mhM := (yX1_keepLongest, cX1_keepLongest, 8, none, { frames := 4, cells := 0, slots := 0, locals := 90 })
def mX2_init : mhM := (yX2_init, cX2_init, 6, none, { frames := 1, cells := 0, slots := 0, locals := 20 })
def mX3_init : mhM := (yX3_init, cX3_init, 1, none, { frames := 1, cells := 1, slots := 60, locals := 20 })
def mX3_renew : mhM := (yX3_renew, cX3_renew, 3, none, { frames := 1, cells := 0, slots := 0, locals := 23 })
def mX3_isNothing : mhM := (yX3_isNothing, cX3_isNothing, 1, some .boolean, { frames := 0, cells := 0, slots := 0, locals := 0 })
def mX3_canBe : mhM := (yX3_canBe, cX3_canBe, 2, some .boolean, { frames := 1, cells := 0, slots := 0, locals := 20 })
def mX3_hasCells : mhM := (yX3_hasCells, cX3_hasCells, 3, some .boolean, { frames := 0, cells := 0, slots := 0, locals := 0 })
def mX3_cut : mhM := (yX3_cut, cX3_cut, 2, some .int, { frames := 0, cells := 0, slots := 0, locals := 0 })
def mX3_faultOfRow : mhM := (yX3_faultOfRow, cX3_faultOfRow, 4, some .int, { frames := 2, cells := 0, slots := 0, locals := 41 })
def mX4_init : mhM := (yX4_init, cX4_init, 1, none, { frames := 1, cells := 3, slots := 9, locals := 20 })
def mX4_thirdsIn : mhM := (yX4_thirdsIn, cX4_thirdsIn, 1, some .int, { frames := 0, cells := 0, slots := 0, locals := 0 })
def mX4_aim : mhM := (yX4_aim, cX4_aim, 5, none, { frames := 1, cells := 0, slots := 0, locals := 21 })
def mX4_setOut : mhM := (yX4_setOut, cX4_setOut, 5, none, { frames := 2, cells := 0, slots := 0, locals := 45 })
def mX4_nextWay : mhM := (yX4_nextWay, cX4_nextWay, 5, some .int, { frames := 0, cells := 0, slots := 0, locals := 0 })
def mX4_foldOver : mhM := (yX4_foldOver, cX4_foldOver, 5, none, { frames := 0, cells := 0, slots := 0, locals := 0 })
def mX4_goOn : mhM := (yX4_goOn, cX4_goOn, 4, none, { frames := 2, cells := 0, slots := 0, locals := 45 })
def mX4_look : mhM := (yX4_look, cX4_look, 7, none, { frames := 3, cells := 0, slots := 0, locals := 69 })
def mJ9_floorMod_7cf53 : mhM := (yJ9_floorMod_7cf53, cJ9_floorMod_7cf53, 3, some .int, { frames := 0, cells := 0, slots := 0, locals := 0 })
def mX4_crossesMore : mhM := (yX4_crossesMore, cX4_crossesMore, 2, some .boolean, { frames := 0, cells := 0, slots := 0, locals := 0 })
def mX4_imageBy : mhM := (yX4_imageBy, cX4_imageBy, 8, some .int, { frames := 3, cells := 0, slots := 0, locals := 69 })
def mX4_seek : mhM := (yX4_seek, cX4_seek, 9, none, { frames := 4, cells := 0, slots := 0, locals := 96 })
def mX5_init : mhM := (yX5_init, cX5_init, 5, none, { frames := 1, cells := 1, slots := 43, locals := 20 })
def mX5_isOut : mhM := (yX5_isOut, cX5_isOut, 1, some .boolean, { frames := 0, cells := 0, slots := 0, locals := 0 })
def mX5_seemsOpen : mhM := (yX5_seemsOpen, cX5_seemsOpen, 2, some .boolean, { frames := 0, cells := 0, slots := 0, locals := 0 })
def mX5_firstClear : mhM := (yX5_firstClear, cX5_firstClear, 8, some .int, { frames := 1, cells := 0, slots := 0, locals := 22 })
def mX5_goOn : mhM := (yX5_goOn, cX5_goOn, 4, none, { frames := 2, cells := 0, slots := 0, locals := 49 })
def mX6_init : mhM := (yX6_init, cX6_init, 2, none, { frames := 2, cells := 20, slots := 1366, locals := 40 })
def mX6_houseAt : mhM := (yX6_houseAt, cX6_houseAt, 2, some (.object "MirrorHouse$House"), { frames := 0, cells := 0, slots := 0, locals := 0 })
def mX6_walkerAt : mhM := (yX6_walkerAt, cX6_walkerAt, 2, some (.object "MirrorHouse$Walker"), { frames := 0, cells := 0, slots := 0, locals := 0 })
def mX6_sheetAt : mhM := (yX6_sheetAt, cX6_sheetAt, 2, some (.object "MirrorHouse$Sheet"), { frames := 0, cells := 0, slots := 0, locals := 0 })
def mX6_isWay : mhM := (yX6_isWay, cX6_isWay, 1, some .boolean, { frames := 1, cells := 0, slots := 0, locals := 22 })
def mX6_isSort : mhM := (yX6_isSort, cX6_isSort, 1, some .boolean, { frames := 1, cells := 0, slots := 0, locals := 22 })
def mX6_isTurn : mhM := (yX6_isTurn, cX6_isTurn, 2, some .boolean, { frames := 1, cells := 0, slots := 0, locals := 22 })
def mX6_faulted : mhM := (yX6_faulted, cX6_faulted, 2, some .int, { frames := 0, cells := 0, slots := 0, locals := 0 })
def mX6_lostBy : mhM := (yX6_lostBy, cX6_lostBy, 2, some .long, { frames := 0, cells := 0, slots := 0, locals := 0 })
def mX6_lettersOf : mhM := (yX6_lettersOf, cX6_lettersOf, 2, some .int, { frames := 1, cells := 0, slots := 0, locals := 21 })
def mX6_kindOf : mhM := (yX6_kindOf, cX6_kindOf, 1, some .int, { frames := 0, cells := 0, slots := 0, locals := 0 })
def mX6_goesOn : mhM := (yX6_goesOn, cX6_goesOn, 4, some .boolean, { frames := 2, cells := 0, slots := 0, locals := 42 })
def mX6_firstFaultOf : mhM := (yX6_firstFaultOf, cX6_firstFaultOf, 4, some .int, { frames := 3, cells := 0, slots := 0, locals := 65 })
def mX6_builtBy : mhM := (yX6_builtBy, cX6_builtBy, 4, some (.object "MirrorHouse$House"), { frames := 3, cells := 11, slots := 359, locals := 71 })
def mX6_house : mhM := (yX6_house, cX6_house, 8, some .int, { frames := 4, cells := 11, slots := 359, locals := 94 })
def mX6_ofHouse : mhM := (yX6_ofHouse, cX6_ofHouse, 4, some .int, { frames := 1, cells := 0, slots := 0, locals := 23 })
def mX6_ofSide : mhM := (yX6_ofSide, cX6_ofSide, 5, some .int, { frames := 2, cells := 0, slots := 0, locals := 43 })
def mX6_side : mhM := (yX6_side, cX6_side, 5, some .int, { frames := 2, cells := 0, slots := 0, locals := 43 })
def mX6_pane : mhM := (yX6_pane, cX6_pane, 5, some .int, { frames := 2, cells := 0, slots := 0, locals := 43 })
def mX6_seen : mhM := (yX6_seen, cX6_seen, 8, some .int, { frames := 4, cells := 0, slots := 0, locals := 95 })
def mX6_met : mhM := (yX6_met, cX6_met, 7, some .int, { frames := 4, cells := 0, slots := 0, locals := 95 })
def mX6_image : mhM := (yX6_image, cX6_image, 6, some .int, { frames := 4, cells := 0, slots := 0, locals := 96 })
def mX6_images : mhM := (yX6_images, cX6_images, 7, some .int, { frames := 5, cells := 0, slots := 0, locals := 124 })
def mX6_report : mhM := (yX6_report, cX6_report, 7, some .int, { frames := 2, cells := 1, slots := 5, locals := 45 })
def mX6_fits : mhM := (yX6_fits, cX6_fits, 5, some .int, { frames := 4, cells := 0, slots := 0, locals := 96 })
def mX6_spots : mhM := (yX6_spots, cX6_spots, 6, some .int, { frames := 5, cells := 0, slots := 0, locals := 120 })
def mX6_photograph : mhM := (yX6_photograph, cX6_photograph, 8, some .int, { frames := 3, cells := 0, slots := 0, locals := 64 })
def mX6_showsPhotoFrom : mhM := (yX6_showsPhotoFrom, cX6_showsPhotoFrom, 5, some .boolean, { frames := 4, cells := 0, slots := 0, locals := 95 })
def mX6_taken : mhM := (yX6_taken, cX6_taken, 5, some .int, { frames := 5, cells := 0, slots := 0, locals := 119 })
def mX6_walker : mhM := (yX6_walker, cX6_walker, 6, some .int, { frames := 2, cells := 2, slots := 51, locals := 44 })
def mX6_insideOf : mhM := (yX6_insideOf, cX6_insideOf, 5, some .int, { frames := 1, cells := 0, slots := 0, locals := 20 })
def mX6_tickAll : mhM := (yX6_tickAll, cX6_tickAll, 5, none, { frames := 3, cells := 0, slots := 0, locals := 72 })
def mX6_ticks : mhM := (yX6_ticks, cX6_ticks, 6, some .int, { frames := 4, cells := 0, slots := 0, locals := 96 })
def mX6_ofWalker : mhM := (yX6_ofWalker, cX6_ofWalker, 4, some .int, { frames := 1, cells := 0, slots := 0, locals := 21 })
def mX6_shut : mhM := (yX6_shut, cX6_shut, 3, some .int, { frames := 4, cells := 0, slots := 0, locals := 92 })
def mX6_far : mhM := (yX6_far, cX6_far, 4, some .int, { frames := 4, cells := 0, slots := 0, locals := 92 })
def mX6_opened : mhM := (yX6_opened, cX6_opened, 6, some .int, { frames := 6, cells := 0, slots := 0, locals := 138 })
def mX6_areSides : mhM := (yX6_areSides, cX6_areSides, 5, some .boolean, { frames := 2, cells := 0, slots := 0, locals := 43 })
def mX6_hasLike : mhM := (yX6_hasLike, cX6_hasLike, 5, some .boolean, { frames := 0, cells := 0, slots := 0, locals := 0 })
def mX6_keeps : mhM := (yX6_keeps, cX6_keeps, 12, some .int, { frames := 5, cells := 0, slots := 0, locals := 117 })
def mX6_changed : mhM := (yX6_changed, cX6_changed, 5, some .long, { frames := 6, cells := 0, slots := 0, locals := 140 })
def mX6_change : mhM := (yX6_change, cX6_change, 6, some .int, { frames := 6, cells := 0, slots := 0, locals := 140 })
def mX6_sheet : mhM := (yX6_sheet, cX6_sheet, 5, some .int, { frames := 2, cells := 0, slots := 0, locals := 45 })
def mX6_lose : mhM := (yX6_lose, cX6_lose, 4, some .int, { frames := 2, cells := 0, slots := 0, locals := 45 })
def mX6_put : mhM := (yX6_put, cX6_put, 5, some .int, { frames := 1, cells := 0, slots := 0, locals := 22 })
def mX6_cell : mhM := (yX6_cell, cX6_cell, 5, some .long, { frames := 2, cells := 0, slots := 0, locals := 42 })
def mX6_copy : mhM := (yX6_copy, cX6_copy, 8, some .int, { frames := 1, cells := 0, slots := 0, locals := 26 })
def mX6_leave : mhM := (yX6_leave, cX6_leave, 2, none, { frames := 0, cells := 0, slots := 0, locals := 0 })
def mX6_blindTells : mhM := (yX6_blindTells, cX6_blindTells, 2, some .int, { frames := 1, cells := 0, slots := 0, locals := 21 })
def mX6_seerTells : mhM := (yX6_seerTells, cX6_seerTells, 2, some .int, { frames := 2, cells := 0, slots := 0, locals := 42 })
def mX6_waryTells : mhM := (yX6_waryTells, cX6_waryTells, 2, some .int, { frames := 3, cells := 0, slots := 0, locals := 63 })
def mX6_tell : mhM := (yX6_tell, cX6_tell, 3, some .int, { frames := 4, cells := 0, slots := 0, locals := 84 })
def mX6_greet : mhM := (yX6_greet, cX6_greet, 3, some .int, { frames := 1, cells := 0, slots := 0, locals := 21 })
def mX6_as : mhM := (yX6_as, cX6_as, 4, some .int, { frames := 1, cells := 0, slots := 0, locals := 22 })
def mX6_trace : mhM := (yX6_trace, cX6_trace, 1, some .int, { frames := 0, cells := 0, slots := 0, locals := 0 })
def mX6_fault : mhM := (yX6_fault, cX6_fault, 1, some .int, { frames := 0, cells := 0, slots := 0, locals := 0 })
def mX6_outs : mhM := (yX6_outs, cX6_outs, 4, some .int, { frames := 1, cells := 0, slots := 0, locals := 20 })
def mX6_many : mhM := (yX6_many, cX6_many, 2, some .int, { frames := 2, cells := 0, slots := 0, locals := 43 })
def mX7_init : mhM := (yX7_init, cX7_init, 1, none, { frames := 1, cells := 30, slots := 2233, locals := 20 })
def mX7_fails : mhM := (yX7_fails, cX7_fails, 2, some .int, { frames := 0, cells := 0, slots := 0, locals := 0 })
def mX7_lost : mhM := (yX7_lost, cX7_lost, 2, some .long, { frames := 0, cells := 0, slots := 0, locals := 0 })
def mX7_within : mhM := (yX7_within, cX7_within, 3, some .boolean, { frames := 0, cells := 0, slots := 0, locals := 0 })
def mX7_has : mhM := (yX7_has, cX7_has, 2, some .boolean, { frames := 0, cells := 0, slots := 0, locals := 0 })
def mX7_isSheet : mhM := (yX7_isSheet, cX7_isSheet, 1, some .boolean, { frames := 1, cells := 0, slots := 0, locals := 22 })
def mX7_isSort : mhM := (yX7_isSort, cX7_isSort, 1, some .boolean, { frames := 1, cells := 0, slots := 0, locals := 22 })
def mX7_against : mhM := (yX7_against, cX7_against, 5, some .int, { frames := 0, cells := 0, slots := 0, locals := 0 })
def mX7_isHouse : mhM := (yX7_isHouse, cX7_isHouse, 2, some .boolean, { frames := 0, cells := 0, slots := 0, locals := 0 })
def mX7_rooms : mhM := (yX7_rooms, cX7_rooms, 2, some .int, { frames := 0, cells := 0, slots := 0, locals := 0 })
def mX7_sides : mhM := (yX7_sides, cX7_sides, 2, some .int, { frames := 0, cells := 0, slots := 0, locals := 0 })
def mX7_isRoom : mhM := (yX7_isRoom, cX7_isRoom, 3, some .boolean, { frames := 1, cells := 0, slots := 0, locals := 21 })
def mX7_isSide : mhM := (yX7_isSide, cX7_isSide, 3, some .boolean, { frames := 1, cells := 0, slots := 0, locals := 21 })
def mX7_digitAt : mhM := (yX7_digitAt, cX7_digitAt, 3, some .int, { frames := 1, cells := 0, slots := 0, locals := 22 })
def mX7_readHouse : mhM := (yX7_readHouse, cX7_readHouse, 7, some .int, { frames := 2, cells := 0, slots := 0, locals := 44 })
def mX7_house : mhM := (yX7_house, cX7_house, 10, some .int, { frames := 3, cells := 0, slots := 0, locals := 70 })
def mX7_countOf : mhM := (yX7_countOf, cX7_countOf, 5, some .int, { frames := 1, cells := 0, slots := 0, locals := 21 })
def mX7_ofHouse : mhM := (yX7_ofHouse, cX7_ofHouse, 5, some .int, { frames := 2, cells := 0, slots := 0, locals := 45 })
def mX7_sideOf : mhM := (yX7_sideOf, cX7_sideOf, 8, some .int, { frames := 0, cells := 0, slots := 0, locals := 0 })
def mX7_behind : mhM := (yX7_behind, cX7_behind, 8, some .int, { frames := 0, cells := 0, slots := 0, locals := 0 })
def mX7_ofSide : mhM := (yX7_ofSide, cX7_ofSide, 9, some .int, { frames := 2, cells := 0, slots := 0, locals := 43 })
def mX7_side : mhM := (yX7_side, cX7_side, 4, some .int, { frames := 2, cells := 0, slots := 0, locals := 43 })
def mX7_pane : mhM := (yX7_pane, cX7_pane, 6, some .int, { frames := 2, cells := 0, slots := 0, locals := 43 })
def mX7_isTurn : mhM := (yX7_isTurn, cX7_isTurn, 2, some .boolean, { frames := 1, cells := 0, slots := 0, locals := 22 })
def mX7_setOut : mhM := (yX7_setOut, cX7_setOut, 8, none, { frames := 0, cells := 0, slots := 0, locals := 0 })
def mX7_nextWay : mhM := (yX7_nextWay, cX7_nextWay, 6, some .int, { frames := 0, cells := 0, slots := 0, locals := 0 })
def mX7_cross : mhM := (yX7_cross, cX7_cross, 7, none, { frames := 1, cells := 0, slots := 0, locals := 27 })
def mX7_look : mhM := (yX7_look, cX7_look, 6, none, { frames := 2, cells := 0, slots := 0, locals := 53 })
def mX7_seen : mhM := (yX7_seen, cX7_seen, 7, some .int, { frames := 3, cells := 0, slots := 0, locals := 78 })
def mX7_met : mhM := (yX7_met, cX7_met, 6, some .int, { frames := 3, cells := 0, slots := 0, locals := 78 })
def mX7_isAhead : mhM := (yX7_isAhead, cX7_isAhead, 2, some .boolean, { frames := 0, cells := 0, slots := 0, locals := 0 })
def mX7_over : mhM := (yX7_over, cX7_over, 2, some .int, { frames := 0, cells := 0, slots := 0, locals := 0 })
def mX7_imageOf : mhM := (yX7_imageOf, cX7_imageOf, 8, some .int, { frames := 2, cells := 0, slots := 0, locals := 53 })
def mX7_image : mhM := (yX7_image, cX7_image, 5, some .int, { frames := 3, cells := 0, slots := 0, locals := 80 })
def mX7_images : mhM := (yX7_images, cX7_images, 13, some .int, { frames := 3, cells := 0, slots := 0, locals := 80 })
def mX7_report : mhM := (yX7_report, cX7_report, 6, some .int, { frames := 2, cells := 0, slots := 0, locals := 43 })
def mX7_spots : mhM := (yX7_spots, cX7_spots, 6, some .int, { frames := 3, cells := 0, slots := 0, locals := 80 })
def mX7_photograph : mhM := (yX7_photograph, cX7_photograph, 8, some .int, { frames := 2, cells := 0, slots := 0, locals := 43 })
def mX7_taken : mhM := (yX7_taken, cX7_taken, 6, some .int, { frames := 3, cells := 0, slots := 0, locals := 78 })
def mX7_isWalker : mhM := (yX7_isWalker, cX7_isWalker, 2, some .boolean, { frames := 0, cells := 0, slots := 0, locals := 0 })
def mX7_walker : mhM := (yX7_walker, cX7_walker, 7, some .int, { frames := 2, cells := 0, slots := 0, locals := 43 })
def mX7_hand : mhM := (yX7_hand, cX7_hand, 4, some .int, { frames := 0, cells := 0, slots := 0, locals := 0 })
def mX7_takes : mhM := (yX7_takes, cX7_takes, 3, some .boolean, { frames := 0, cells := 0, slots := 0, locals := 0 })
def mX7_choice : mhM := (yX7_choice, cX7_choice, 9, some .int, { frames := 1, cells := 0, slots := 0, locals := 27 })
def mX7_walk : mhM := (yX7_walk, cX7_walk, 5, none, { frames := 2, cells := 0, slots := 0, locals := 55 })
def mX7_ticks : mhM := (yX7_ticks, cX7_ticks, 5, some .int, { frames := 3, cells := 0, slots := 0, locals := 79 })
def mX7_ofWalker : mhM := (yX7_ofWalker, cX7_ofWalker, 3, some .int, { frames := 1, cells := 0, slots := 0, locals := 21 })
def mX7_layFars : mhM := (yX7_layFars, cX7_layFars, 7, none, { frames := 1, cells := 0, slots := 0, locals := 27 })
def mX7_shutOf : mhM := (yX7_shutOf, cX7_shutOf, 3, some .int, { frames := 2, cells := 0, slots := 0, locals := 53 })
def mX7_shut : mhM := (yX7_shut, cX7_shut, 2, some .int, { frames := 3, cells := 0, slots := 0, locals := 75 })
def mX7_far : mhM := (yX7_far, cX7_far, 3, some .int, { frames := 2, cells := 0, slots := 0, locals := 53 })
def mX7_areNear : mhM := (yX7_areNear, cX7_areNear, 4, some .boolean, { frames := 3, cells := 0, slots := 0, locals := 75 })
def mX7_findOpened : mhM := (yX7_findOpened, cX7_findOpened, 10, some .int, { frames := 4, cells := 0, slots := 0, locals := 98 })
def mX7_opened : mhM := (yX7_opened, cX7_opened, 5, some .int, { frames := 5, cells := 0, slots := 0, locals := 127 })
def mX7_blindTicks : mhM := (yX7_blindTicks, cX7_blindTicks, 10, some .int, { frames := 1, cells := 0, slots := 0, locals := 27 })
def mX7_keeps : mhM := (yX7_keeps, cX7_keeps, 15, some .int, { frames := 3, cells := 0, slots := 0, locals := 75 })
def mX7_whyNot : mhM := (yX7_whyNot, cX7_whyNot, 4, some .int, { frames := 1, cells := 0, slots := 0, locals := 21 })
def mX7_layRows : mhM := (yX7_layRows, cX7_layRows, 6, none, { frames := 3, cells := 0, slots := 0, locals := 75 })
def mX7_changed : mhM := (yX7_changed, cX7_changed, 3, some .long, { frames := 4, cells := 0, slots := 0, locals := 100 })
def mX7_change : mhM := (yX7_change, cX7_change, 8, some .int, { frames := 4, cells := 0, slots := 0, locals := 100 })
def mX7_sheet : mhM := (yX7_sheet, cX7_sheet, 5, some .int, { frames := 2, cells := 0, slots := 0, locals := 42 })
def mX7_lose : mhM := (yX7_lose, cX7_lose, 3, some .int, { frames := 2, cells := 0, slots := 0, locals := 42 })
def mX7_put : mhM := (yX7_put, cX7_put, 4, some .int, { frames := 2, cells := 0, slots := 0, locals := 42 })
def mX7_cell : mhM := (yX7_cell, cX7_cell, 4, some .long, { frames := 2, cells := 0, slots := 0, locals := 42 })
def mX7_copy : mhM := (yX7_copy, cX7_copy, 10, some .int, { frames := 2, cells := 0, slots := 0, locals := 42 })
def mX7_begins : mhM := (yX7_begins, cX7_begins, 2, none, { frames := 0, cells := 0, slots := 0, locals := 0 })
def mX7_tell : mhM := (yX7_tell, cX7_tell, 3, some .int, { frames := 1, cells := 0, slots := 0, locals := 21 })
def mX7_greet : mhM := (yX7_greet, cX7_greet, 2, some .int, { frames := 1, cells := 0, slots := 0, locals := 21 })
def mX7_as : mhM := (yX7_as, cX7_as, 3, some .int, { frames := 1, cells := 0, slots := 0, locals := 22 })
def mX7_trace : mhM := (yX7_trace, cX7_trace, 1, some .int, { frames := 0, cells := 0, slots := 0, locals := 0 })
def mX7_fault : mhM := (yX7_fault, cX7_fault, 1, some .int, { frames := 0, cells := 0, slots := 0, locals := 0 })
def mX7_many : mhM := (yX7_many, cX7_many, 4, some .int, { frames := 0, cells := 0, slots := 0, locals := 0 })
def mJ9_abs_0f7a4 : mhM := (yJ9_abs_0f7a4, cJ9_abs_0f7a4, 1, some .int, { frames := 0, cells := 0, slots := 0, locals := 0 })
def mL_law : mhM := (yL_law, cL_law, maxLocals, ret, room_1)
theorem mhTs {w : Cond} (h : w ∈ k2_sels lw_privs) (hg : goodWord w = true) : w ∈ mhT := List.mem_filter.mpr ⟨List.mem_append_left _ h, hg⟩
theorem mhT1 {w : Cond} (h : w ∈ tables_1_1) (hg : goodWord w = true) : w ∈ mhT := List.mem_filter.mpr ⟨List.mem_append_right _ (List.mem_append_left _ h), hg⟩
theorem mhT2 {w : Cond} (h : w ∈ tables_1_2) (hg : goodWord w = true) : w ∈ mhT := List.mem_filter.mpr ⟨List.mem_append_right _ (List.mem_append_right _ (List.mem_append_left _ h)), hg⟩
theorem mhT3 {w : Cond} (h : w ∈ tables_1_3) (hg : goodWord w = true) : w ∈ mhT := List.mem_filter.mpr ⟨List.mem_append_right _ (List.mem_append_right _ (List.mem_append_right _ (List.mem_append_left _ h))), hg⟩
theorem mhT4 {w : Cond} (h : w ∈ tables_1_4) (hg : goodWord w = true) : w ∈ mhT := List.mem_filter.mpr ⟨List.mem_append_right _ (List.mem_append_right _ (List.mem_append_right _ (List.mem_append_right _ (List.mem_append_left _ h)))), hg⟩
theorem mhT5 {w : Cond} (h : w ∈ tables_1_5) (hg : goodWord w = true) : w ∈ mhT := List.mem_filter.mpr ⟨List.mem_append_right _ (List.mem_append_right _ (List.mem_append_right _ (List.mem_append_right _ (List.mem_append_right _ (h))))), hg⟩
theorem wd_0 : Cond.selects "MirrorHouse" yX6_sheetAt yX6_sheetAt ∈ mhT := mhTs (List.mem_of_getElem? (i := 0) rfl) rfl
theorem wd_1 : Cond.selects "MirrorHouse" yX6_faulted yX6_faulted ∈ mhT := mhTs (List.mem_of_getElem? (i := 1) rfl) rfl
theorem wd_2 : Cond.selects "MirrorHouse$House" yX1_placeSides yX1_placeSides ∈ mhT := mhTs (List.mem_of_getElem? (i := 2) rfl) rfl
theorem wd_3 : Cond.selects "MirrorHouse$House" yX1_place yX1_place ∈ mhT := mhTs (List.mem_of_getElem? (i := 3) rfl) rfl
theorem wd_4 : Cond.selects "MirrorHouse$House" yX1_second yX1_second ∈ mhT := mhTs (List.mem_of_getElem? (i := 4) rfl) rfl
theorem wd_5 : Cond.selects "MirrorHouse" yX6_houseAt yX6_houseAt ∈ mhT := mhTs (List.mem_of_getElem? (i := 5) rfl) rfl
theorem wd_6 : Cond.selects "MirrorHouse$Sight" yX4_setOut yX4_setOut ∈ mhT := mhTs (List.mem_of_getElem? (i := 6) rfl) rfl
theorem wd_7 : Cond.selects "MirrorHouse$Sight" yX4_aim yX4_aim ∈ mhT := mhTs (List.mem_of_getElem? (i := 7) rfl) rfl
theorem wd_8 : Cond.selects "MirrorHouse$Sight" yX4_goOn yX4_goOn ∈ mhT := mhTs (List.mem_of_getElem? (i := 8) rfl) rfl
theorem wd_9 : Cond.selects "MirrorHouse$Sight" yX4_nextWay yX4_nextWay ∈ mhT := mhTs (List.mem_of_getElem? (i := 9) rfl) rfl
theorem wd_10 : Cond.selects "MirrorHouse$Sight" yX4_foldOver yX4_foldOver ∈ mhT := mhTs (List.mem_of_getElem? (i := 10) rfl) rfl
theorem wd_11 : Cond.selects "MirrorHouse$Sight" yX4_crossesMore yX4_crossesMore ∈ mhT := mhTs (List.mem_of_getElem? (i := 11) rfl) rfl
theorem wd_12 : Cond.selects "MirrorHouse" yX6_fits yX6_fits ∈ mhT := mhTs (List.mem_of_getElem? (i := 12) rfl) rfl
theorem wd_13 : Cond.selects "MirrorHouse" yX6_showsPhotoFrom yX6_showsPhotoFrom ∈ mhT := mhTs (List.mem_of_getElem? (i := 13) rfl) rfl
theorem wd_14 : Cond.selects "MirrorHouse" yX6_insideOf yX6_insideOf ∈ mhT := mhTs (List.mem_of_getElem? (i := 14) rfl) rfl
theorem wd_15 : Cond.selects "MirrorHouse" yX6_tickAll yX6_tickAll ∈ mhT := mhTs (List.mem_of_getElem? (i := 15) rfl) rfl
theorem wd_16 : Cond.selects "MirrorHouse$Walker" yX5_firstClear yX5_firstClear ∈ mhT := mhTs (List.mem_of_getElem? (i := 16) rfl) rfl
theorem wd_17 : Cond.selects "MirrorHouse" yX6_walkerAt yX6_walkerAt ∈ mhT := mhTs (List.mem_of_getElem? (i := 17) rfl) rfl
theorem wd_18 : Cond.selects "MirrorHouse$House" yX1_openBy yX1_openBy ∈ mhT := mhTs (List.mem_of_getElem? (i := 18) rfl) rfl
theorem wd_19 : Cond.selects "MirrorHouse$House" yX1_openAlso yX1_openAlso ∈ mhT := mhTs (List.mem_of_getElem? (i := 19) rfl) rfl
theorem wd_20 : Cond.selects "MirrorHouse$House" yX1_roomsWithin yX1_roomsWithin ∈ mhT := mhTs (List.mem_of_getElem? (i := 20) rfl) rfl
theorem wd_21 : Cond.selects "MirrorHouse$House" yX1_widened yX1_widened ∈ mhT := mhTs (List.mem_of_getElem? (i := 21) rfl) rfl
theorem wd_22 : Cond.selects "MirrorHouse$House" yX1_isNearWith yX1_isNearWith ∈ mhT := mhTs (List.mem_of_getElem? (i := 22) rfl) rfl
theorem wd_23 : Cond.selects "MirrorHouse$House" yX1_findTwo yX1_findTwo ∈ mhT := mhTs (List.mem_of_getElem? (i := 23) rfl) rfl
theorem wd_24 : Cond.selects "MirrorHouse$House" yX1_isTrialFair yX1_isTrialFair ∈ mhT := mhTs (List.mem_of_getElem? (i := 24) rfl) rfl
theorem wd_25 : Cond.selects "MirrorHouse$House" yX1_ticksOfBlind yX1_ticksOfBlind ∈ mhT := mhTs (List.mem_of_getElem? (i := 25) rfl) rfl
theorem wd_26 : Cond.selects "MirrorHouse$Change" yX0_rowsBehind yX0_rowsBehind ∈ mhT := mhTs (List.mem_of_getElem? (i := 26) rfl) rfl
theorem wd_27 : Cond.selects "MirrorHouse$Change" yX0_firstThatGoesOn yX0_firstThatGoesOn ∈ mhT := mhTs (List.mem_of_getElem? (i := 27) rfl) rfl
theorem wd_28 : Cond.selects "MirrorHouse" yX6_lostBy yX6_lostBy ∈ mhT := mhTs (List.mem_of_getElem? (i := 28) rfl) rfl
theorem wd_29 : Cond.selects "MirrorHouse" yX6_waryTells yX6_waryTells ∈ mhT := mhTs (List.mem_of_getElem? (i := 29) rfl) rfl
theorem wd_30 : Cond.selects "MirrorHouse" yX6_leave yX6_leave ∈ mhT := mhTs (List.mem_of_getElem? (i := 30) rfl) rfl
theorem wd_31 : Cond.selects "MirrorHouse" yX6_seerTells yX6_seerTells ∈ mhT := mhTs (List.mem_of_getElem? (i := 31) rfl) rfl
theorem wd_32 : Cond.selects "MirrorHouse" yX6_blindTells yX6_blindTells ∈ mhT := mhTs (List.mem_of_getElem? (i := 32) rfl) rfl
theorem wd_33 : Cond.selects "MirrorHouse" yX6_outs yX6_outs ∈ mhT := mhTs (List.mem_of_getElem? (i := 33) rfl) rfl
theorem wd_34 : Cond.selects "MirrorHouseModel" yX7_against yX7_against ∈ mhT := mhTs (List.mem_of_getElem? (i := 34) rfl) rfl
theorem wd_35 : Cond.selects "MirrorHouseModel" yX7_fails yX7_fails ∈ mhT := mhTs (List.mem_of_getElem? (i := 35) rfl) rfl
theorem wd_36 : Cond.selects "MirrorHouseModel" yX7_readHouse yX7_readHouse ∈ mhT := mhTs (List.mem_of_getElem? (i := 36) rfl) rfl
theorem wd_37 : Cond.selects "MirrorHouseModel" yX7_digitAt yX7_digitAt ∈ mhT := mhTs (List.mem_of_getElem? (i := 37) rfl) rfl
theorem wd_38 : Cond.selects "MirrorHouseModel" yX7_isHouse yX7_isHouse ∈ mhT := mhTs (List.mem_of_getElem? (i := 38) rfl) rfl
theorem wd_39 : Cond.selects "MirrorHouseModel" yX7_rooms yX7_rooms ∈ mhT := mhTs (List.mem_of_getElem? (i := 39) rfl) rfl
theorem wd_40 : Cond.selects "MirrorHouseModel" yX7_sides yX7_sides ∈ mhT := mhTs (List.mem_of_getElem? (i := 40) rfl) rfl
theorem wd_41 : Cond.selects "MirrorHouseModel" yX7_countOf yX7_countOf ∈ mhT := mhTs (List.mem_of_getElem? (i := 41) rfl) rfl
theorem wd_42 : Cond.selects "MirrorHouseModel" yX7_isSide yX7_isSide ∈ mhT := mhTs (List.mem_of_getElem? (i := 42) rfl) rfl
theorem wd_43 : Cond.selects "MirrorHouseModel" yX7_sideOf yX7_sideOf ∈ mhT := mhTs (List.mem_of_getElem? (i := 43) rfl) rfl
theorem wd_44 : Cond.selects "MirrorHouseModel" yX7_isRoom yX7_isRoom ∈ mhT := mhTs (List.mem_of_getElem? (i := 44) rfl) rfl
theorem wd_45 : Cond.selects "MirrorHouseModel" yX7_look yX7_look ∈ mhT := mhTs (List.mem_of_getElem? (i := 45) rfl) rfl
theorem wd_46 : Cond.selects "MirrorHouseModel" yX7_setOut yX7_setOut ∈ mhT := mhTs (List.mem_of_getElem? (i := 46) rfl) rfl
theorem wd_47 : Cond.selects "MirrorHouseModel" yX7_cross yX7_cross ∈ mhT := mhTs (List.mem_of_getElem? (i := 47) rfl) rfl
theorem wd_48 : Cond.selects "MirrorHouseModel" yX7_nextWay yX7_nextWay ∈ mhT := mhTs (List.mem_of_getElem? (i := 48) rfl) rfl
theorem wd_49 : Cond.selects "MirrorHouseModel" yX7_behind yX7_behind ∈ mhT := mhTs (List.mem_of_getElem? (i := 49) rfl) rfl
theorem wd_50 : Cond.selects "MirrorHouseModel" yX7_imageOf yX7_imageOf ∈ mhT := mhTs (List.mem_of_getElem? (i := 50) rfl) rfl
theorem wd_51 : Cond.selects "MirrorHouseModel" yX7_isAhead yX7_isAhead ∈ mhT := mhTs (List.mem_of_getElem? (i := 51) rfl) rfl
theorem wd_52 : Cond.selects "MirrorHouseModel" yX7_walk yX7_walk ∈ mhT := mhTs (List.mem_of_getElem? (i := 52) rfl) rfl
theorem wd_53 : Cond.selects "MirrorHouseModel" yX7_choice yX7_choice ∈ mhT := mhTs (List.mem_of_getElem? (i := 53) rfl) rfl
theorem wd_54 : Cond.selects "MirrorHouseModel" yX7_takes yX7_takes ∈ mhT := mhTs (List.mem_of_getElem? (i := 54) rfl) rfl
theorem wd_55 : Cond.selects "MirrorHouseModel" yX7_isWalker yX7_isWalker ∈ mhT := mhTs (List.mem_of_getElem? (i := 55) rfl) rfl
theorem wd_56 : Cond.selects "MirrorHouseModel" yX7_shutOf yX7_shutOf ∈ mhT := mhTs (List.mem_of_getElem? (i := 56) rfl) rfl
theorem wd_57 : Cond.selects "MirrorHouseModel" yX7_layFars yX7_layFars ∈ mhT := mhTs (List.mem_of_getElem? (i := 57) rfl) rfl
theorem wd_58 : Cond.selects "MirrorHouseModel" yX7_findOpened yX7_findOpened ∈ mhT := mhTs (List.mem_of_getElem? (i := 58) rfl) rfl
theorem wd_59 : Cond.selects "MirrorHouseModel" yX7_areNear yX7_areNear ∈ mhT := mhTs (List.mem_of_getElem? (i := 59) rfl) rfl
theorem wd_60 : Cond.selects "MirrorHouseModel" yX7_blindTicks yX7_blindTicks ∈ mhT := mhTs (List.mem_of_getElem? (i := 60) rfl) rfl
theorem wd_61 : Cond.selects "MirrorHouseModel" yX7_whyNot yX7_whyNot ∈ mhT := mhTs (List.mem_of_getElem? (i := 61) rfl) rfl
theorem wd_62 : Cond.selects "MirrorHouseModel" yX7_layRows yX7_layRows ∈ mhT := mhTs (List.mem_of_getElem? (i := 62) rfl) rfl
theorem wd_63 : Cond.selects "MirrorHouseModel" yX7_lost yX7_lost ∈ mhT := mhTs (List.mem_of_getElem? (i := 63) rfl) rfl
theorem wd_64 : Cond.selects "MirrorHouseModel" yX7_begins yX7_begins ∈ mhT := mhTs (List.mem_of_getElem? (i := 64) rfl) rfl
theorem wd_65 : Cond.initialized "MirrorHouseLaw" ∈ mhT := mhT1 (List.mem_of_getElem? (i := 0) rfl) rfl
theorem wd_66 : Cond.initialized "MirrorHouse" ∈ mhT := mhT1 (List.mem_of_getElem? (i := 1) rfl) rfl
theorem wd_67 : Cond.initialized "MirrorHouse$Sight" ∈ mhT := mhT1 (List.mem_of_getElem? (i := 2) rfl) rfl
theorem wd_68 : Cond.initialized "MirrorHouse$Change" ∈ mhT := mhT1 (List.mem_of_getElem? (i := 3) rfl) rfl
theorem wd_69 : Cond.initialized "MirrorHouse$Sheet" ∈ mhT := mhT1 (List.mem_of_getElem? (i := 4) rfl) rfl
theorem wd_70 : Cond.initialized "MirrorHouseModel" ∈ mhT := mhT1 (List.mem_of_getElem? (i := 5) rfl) rfl
theorem wd_71 : Cond.initialized "MirrorHouse$House" ∈ mhT := mhT1 (List.mem_of_getElem? (i := 6) rfl) rfl
theorem wd_72 : Cond.initialized "java/lang/Math" ∈ mhT := mhT1 (List.mem_of_getElem? (i := 7) rfl) rfl
theorem wd_73 : Cond.initialized "MirrorHouse$Report" ∈ mhT := mhT1 (List.mem_of_getElem? (i := 8) rfl) rfl
theorem wd_74 : Cond.initialized "java/lang/System" ∈ mhT := mhT1 (List.mem_of_getElem? (i := 9) rfl) rfl
theorem wd_75 : Cond.initialized "MirrorHouse$Walker" ∈ mhT := mhT1 (List.mem_of_getElem? (i := 10) rfl) rfl
theorem wd_76 : Cond.initialized "java/util/Arrays" ∈ mhT := mhT1 (List.mem_of_getElem? (i := 11) rfl) rfl
theorem wd_77 : Cond.classLink "MirrorHouseLaw" 7 "MirrorHouse" ∈ mhT := mhT1 (List.mem_of_getElem? (i := 12) rfl) rfl
theorem wd_78 : Cond.instantiable "MirrorHouse" 13 ∈ mhT := mhT1 (List.mem_of_getElem? (i := 13) rfl) rfl
theorem wd_79 : Cond.methodLink "MirrorHouseLaw" 9 yX6_init ∈ mhT := mhT1 (List.mem_of_getElem? (i := 14) rfl) rfl
theorem wd_80 : Cond.instanceMethod yX6_init ∈ mhT := mhT1 (List.mem_of_getElem? (i := 15) rfl) rfl
theorem wd_81 : Cond.code yX6_init prog_1_method_1_code 2 none ∈ mhT := mhT1 (List.mem_of_getElem? (i := 16) rfl) rfl
theorem wd_82 : Cond.methodLink "MirrorHouse" 3 Lib.objectInit ∈ mhT := mhT1 (List.mem_of_getElem? (i := 17) rfl) rfl
theorem wd_83 : Cond.instanceMethod Lib.objectInit ∈ mhT := mhT1 (List.mem_of_getElem? (i := 18) rfl) rfl
theorem wd_84 : Cond.code Lib.objectInit ⟨#[0xb1]⟩ 1 none ∈ mhT := mhT1 (List.mem_of_getElem? (i := 19) rfl) rfl
theorem wd_85 : Cond.classLink "MirrorHouse" 9 "MirrorHouse$Sheet" ∈ mhT := mhT1 (List.mem_of_getElem? (i := 20) rfl) rfl
theorem wd_87 : Cond.classLink "MirrorHouse" 17 "MirrorHouse$House" ∈ mhT := mhT1 (List.mem_of_getElem? (i := 22) rfl) rfl
theorem wd_89 : Cond.classLink "MirrorHouse" 23 "MirrorHouse$Report" ∈ mhT := mhT1 (List.mem_of_getElem? (i := 24) rfl) rfl
theorem wd_91 : Cond.classLink "MirrorHouse" 29 "MirrorHouse$Walker" ∈ mhT := mhT1 (List.mem_of_getElem? (i := 26) rfl) rfl
theorem wd_93 : Cond.classLink "MirrorHouse" 39 "MirrorHouse$Sight" ∈ mhT := mhT1 (List.mem_of_getElem? (i := 28) rfl) rfl
theorem wd_94 : Cond.instantiable "MirrorHouse$Sight" 11 ∈ mhT := mhT1 (List.mem_of_getElem? (i := 29) rfl) rfl
theorem wd_96 : Cond.instanceMethod yX4_init ∈ mhT := mhT1 (List.mem_of_getElem? (i := 31) rfl) rfl
theorem wd_97 : Cond.code yX4_init prog_6_method_1_code 1 none ∈ mhT := mhT1 (List.mem_of_getElem? (i := 32) rfl) rfl
theorem wd_98 : Cond.methodLink "MirrorHouse$Sight" 3 Lib.objectInit ∈ mhT := mhT1 (List.mem_of_getElem? (i := 33) rfl) rfl
theorem wd_99 : Cond.fieldLink "MirrorHouse$Sight" 25 "MirrorHouse$Sight" "ends" "I" ∈ mhT := mhT1 (List.mem_of_getElem? (i := 34) rfl) rfl
theorem wd_100 : Cond.fieldLink "MirrorHouse" 176 "MirrorHouse$Sight" "ends" "I" ∈ mhT := mhT1 (List.mem_of_getElem? (i := 35) rfl) rfl
theorem wd_101 : Cond.fieldLink "MirrorHouse$Sight" 33 "MirrorHouse$Sight" "crossings" "I" ∈ mhT := mhT1 (List.mem_of_getElem? (i := 36) rfl) rfl
theorem wd_102 : Cond.fieldLink "MirrorHouse" 179 "MirrorHouse$Sight" "crossings" "I" ∈ mhT := mhT1 (List.mem_of_getElem? (i := 37) rfl) rfl
theorem wd_103 : Cond.fieldLink "MirrorHouse$Sight" 36 "MirrorHouse$Sight" "mirrors" "I" ∈ mhT := mhT1 (List.mem_of_getElem? (i := 38) rfl) rfl
theorem wd_104 : Cond.fieldLink "MirrorHouse" 182 "MirrorHouse$Sight" "mirrors" "I" ∈ mhT := mhT1 (List.mem_of_getElem? (i := 39) rfl) rfl
theorem wd_105 : Cond.fieldLink "MirrorHouse$Sight" 39 "MirrorHouse$Sight" "room" "I" ∈ mhT := mhT1 (List.mem_of_getElem? (i := 40) rfl) rfl
theorem wd_106 : Cond.fieldLink "MirrorHouse" 185 "MirrorHouse$Sight" "room" "I" ∈ mhT := mhT1 (List.mem_of_getElem? (i := 41) rfl) rfl
theorem wd_107 : Cond.fieldLink "MirrorHouse$Sight" 42 "MirrorHouse$Sight" "side" "I" ∈ mhT := mhT1 (List.mem_of_getElem? (i := 42) rfl) rfl
theorem wd_108 : Cond.fieldLink "MirrorHouse" 188 "MirrorHouse$Sight" "side" "I" ∈ mhT := mhT1 (List.mem_of_getElem? (i := 43) rfl) rfl
theorem wd_109 : Cond.fieldLink "MirrorHouse$Sight" 84 "MirrorHouse$Sight" "found" "I" ∈ mhT := mhT1 (List.mem_of_getElem? (i := 44) rfl) rfl
theorem wd_110 : Cond.fieldLink "MirrorHouse" 199 "MirrorHouse$Sight" "found" "I" ∈ mhT := mhT1 (List.mem_of_getElem? (i := 45) rfl) rfl
theorem wd_111 : Cond.fieldLink "MirrorHouse$Sight" 91 "MirrorHouse$Sight" "nearestP" "I" ∈ mhT := mhT1 (List.mem_of_getElem? (i := 46) rfl) rfl
theorem wd_112 : Cond.fieldLink "MirrorHouse" 202 "MirrorHouse$Sight" "nearestP" "I" ∈ mhT := mhT1 (List.mem_of_getElem? (i := 47) rfl) rfl
theorem wd_113 : Cond.fieldLink "MirrorHouse$Sight" 94 "MirrorHouse$Sight" "nearestQ" "I" ∈ mhT := mhT1 (List.mem_of_getElem? (i := 48) rfl) rfl
theorem wd_114 : Cond.fieldLink "MirrorHouse" 205 "MirrorHouse$Sight" "nearestQ" "I" ∈ mhT := mhT1 (List.mem_of_getElem? (i := 49) rfl) rfl
theorem wd_115 : Cond.fieldLink "MirrorHouse$Sight" 9 "MirrorHouse$Sight" "ahead" "[I" ∈ mhT := mhT1 (List.mem_of_getElem? (i := 50) rfl) rfl
theorem wd_116 : Cond.fieldLink "MirrorHouse$Sight" 15 "MirrorHouse$Sight" "pace" "[I" ∈ mhT := mhT1 (List.mem_of_getElem? (i := 51) rfl) rfl
theorem wd_117 : Cond.fieldLink "MirrorHouse$Sight" 18 "MirrorHouse$Sight" "folded" "[I" ∈ mhT := mhT1 (List.mem_of_getElem? (i := 52) rfl) rfl
theorem wd_141 : Cond.arrayClass .int ∈ mhT := mhT1 (List.mem_of_getElem? (i := 76) rfl) rfl
theorem wd_142 : Cond.classLink "MirrorHouse" 46 "MirrorHouse$Change" ∈ mhT := mhT1 (List.mem_of_getElem? (i := 77) rfl) rfl
theorem wd_143 : Cond.instantiable "MirrorHouse$Change" 3 ∈ mhT := mhT1 (List.mem_of_getElem? (i := 78) rfl) rfl
theorem wd_145 : Cond.instanceMethod yX0_init ∈ mhT := mhT1 (List.mem_of_getElem? (i := 80) rfl) rfl
theorem wd_146 : Cond.code yX0_init prog_2_method_1_code 1 none ∈ mhT := mhT1 (List.mem_of_getElem? (i := 81) rfl) rfl
theorem wd_147 : Cond.methodLink "MirrorHouse$Change" 3 Lib.objectInit ∈ mhT := mhT1 (List.mem_of_getElem? (i := 82) rfl) rfl
theorem wd_148 : Cond.fieldLink "MirrorHouse$Change" 9 "MirrorHouse$Change" "unlike" "[I" ∈ mhT := mhT1 (List.mem_of_getElem? (i := 83) rfl) rfl
theorem wd_149 : Cond.fieldLink "MirrorHouse$Change" 18 "MirrorHouse$Change" "n" "I" ∈ mhT := mhT1 (List.mem_of_getElem? (i := 84) rfl) rfl
theorem wd_150 : Cond.fieldLink "MirrorHouse$Change" 15 "MirrorHouse$Change" "rows" "[I" ∈ mhT := mhT1 (List.mem_of_getElem? (i := 85) rfl) rfl
theorem wd_158 : Cond.instantiable "MirrorHouse$Sheet" 3 ∈ mhT := mhT1 (List.mem_of_getElem? (i := 93) rfl) rfl
theorem wd_160 : Cond.instanceMethod yX3_init ∈ mhT := mhT1 (List.mem_of_getElem? (i := 95) rfl) rfl
theorem wd_161 : Cond.code yX3_init prog_5_method_1_code 1 none ∈ mhT := mhT1 (List.mem_of_getElem? (i := 96) rfl) rfl
theorem wd_162 : Cond.methodLink "MirrorHouse$Sheet" 3 Lib.objectInit ∈ mhT := mhT1 (List.mem_of_getElem? (i := 97) rfl) rfl
theorem wd_163 : Cond.fieldLink "MirrorHouse$Sheet" 9 "MirrorHouse$Sheet" "cells" "[I" ∈ mhT := mhT1 (List.mem_of_getElem? (i := 98) rfl) rfl
theorem wd_164 : Cond.fieldLink "MirrorHouse" 102 "MirrorHouse$Sheet" "cells" "[I" ∈ mhT := mhT1 (List.mem_of_getElem? (i := 99) rfl) rfl
theorem wd_165 : Cond.fieldLink "MirrorHouse$House" 130 "MirrorHouse$Sheet" "cells" "[I" ∈ mhT := mhT1 (List.mem_of_getElem? (i := 100) rfl) rfl
theorem wd_166 : Cond.fieldLink "MirrorHouse$Sheet" 15 "MirrorHouse$Sheet" "sort" "I" ∈ mhT := mhT1 (List.mem_of_getElem? (i := 101) rfl) rfl
theorem wd_167 : Cond.fieldLink "MirrorHouse" 349 "MirrorHouse$Sheet" "sort" "I" ∈ mhT := mhT1 (List.mem_of_getElem? (i := 102) rfl) rfl
theorem wd_168 : Cond.fieldLink "MirrorHouse$Sheet" 19 "MirrorHouse$Sheet" "length" "I" ∈ mhT := mhT1 (List.mem_of_getElem? (i := 103) rfl) rfl
theorem wd_169 : Cond.fieldLink "MirrorHouse" 336 "MirrorHouse$Sheet" "length" "I" ∈ mhT := mhT1 (List.mem_of_getElem? (i := 104) rfl) rfl
theorem wd_177 : Cond.fieldLink "MirrorHouse" 11 "MirrorHouse" "sheets" "[LMirrorHouse$Sheet;" ∈ mhT := mhT1 (List.mem_of_getElem? (i := 112) rfl) rfl
theorem wd_178 : Cond.fieldLink "MirrorHouse" 19 "MirrorHouse" "houses" "[LMirrorHouse$House;" ∈ mhT := mhT1 (List.mem_of_getElem? (i := 113) rfl) rfl
theorem wd_179 : Cond.fieldLink "MirrorHouse" 25 "MirrorHouse" "reports" "[LMirrorHouse$Report;" ∈ mhT := mhT1 (List.mem_of_getElem? (i := 114) rfl) rfl
theorem wd_180 : Cond.fieldLink "MirrorHouse" 31 "MirrorHouse" "walkers" "[LMirrorHouse$Walker;" ∈ mhT := mhT1 (List.mem_of_getElem? (i := 115) rfl) rfl
theorem wd_181 : Cond.fieldLink "MirrorHouse" 35 "MirrorHouse" "photo" "[I" ∈ mhT := mhT1 (List.mem_of_getElem? (i := 116) rfl) rfl
theorem wd_182 : Cond.fieldLink "MirrorHouse" 42 "MirrorHouse" "sight" "LMirrorHouse$Sight;" ∈ mhT := mhT1 (List.mem_of_getElem? (i := 117) rfl) rfl
theorem wd_183 : Cond.fieldLink "MirrorHouse" 49 "MirrorHouse" "plan" "LMirrorHouse$Change;" ∈ mhT := mhT1 (List.mem_of_getElem? (i := 118) rfl) rfl
theorem wd_184 : Cond.fieldLink "MirrorHouse" 54 "MirrorHouse" "houseCount" "I" ∈ mhT := mhT1 (List.mem_of_getElem? (i := 119) rfl) rfl
theorem wd_185 : Cond.fieldLink "MirrorHouse" 208 "MirrorHouse" "reportCount" "I" ∈ mhT := mhT1 (List.mem_of_getElem? (i := 120) rfl) rfl
theorem wd_186 : Cond.fieldLink "MirrorHouse" 58 "MirrorHouse" "walkerCount" "I" ∈ mhT := mhT1 (List.mem_of_getElem? (i := 121) rfl) rfl
theorem wd_187 : Cond.fieldLink "MirrorHouse" 241 "MirrorHouse" "photoRows" "I" ∈ mhT := mhT1 (List.mem_of_getElem? (i := 122) rfl) rfl
theorem wd_188 : Cond.fieldLink "MirrorHouse" 369 "MirrorHouse" "traced" "I" ∈ mhT := mhT1 (List.mem_of_getElem? (i := 123) rfl) rfl
theorem wd_189 : Cond.fieldLink "MirrorHouse" 65 "MirrorHouse" "lastFault" "I" ∈ mhT := mhT1 (List.mem_of_getElem? (i := 124) rfl) rfl
theorem wd_217 : Cond.methodLink "MirrorHouseLaw" 13 yX6_house ∈ mhT := mhT1 (List.mem_of_getElem? (i := 152) rfl) rfl
theorem wd_218 : Cond.instanceMethod yX6_house ∈ mhT := mhT1 (List.mem_of_getElem? (i := 153) rfl) rfl
theorem wd_219 : Cond.selects "MirrorHouse" yX6_house yX6_house ∈ mhT := mhT1 (List.mem_of_getElem? (i := 154) rfl) rfl
theorem wd_220 : Cond.code yX6_house prog_1_method_11_code 8 (some .int) ∈ mhT := mhT1 (List.mem_of_getElem? (i := 155) rfl) rfl
theorem wd_221 : Cond.methodLink "MirrorHouse" 70 yX6_sheetAt ∈ mhT := mhT1 (List.mem_of_getElem? (i := 156) rfl) rfl
theorem wd_223 : Cond.instanceMethod yX6_sheetAt ∈ mhT := mhT1 (List.mem_of_getElem? (i := 158) rfl) rfl
theorem wd_224 : Cond.code yX6_sheetAt prog_1_method_4_code 2 (some (.object "MirrorHouse$Sheet")) ∈ mhT := mhT1 (List.mem_of_getElem? (i := 159) rfl) rfl
theorem wd_225 : Cond.methodLink "MirrorHouse" 74 yX6_isSort ∈ mhT := mhT1 (List.mem_of_getElem? (i := 160) rfl) rfl
theorem wd_226 : Cond.static yX6_isSort ∈ mhT := mhT1 (List.mem_of_getElem? (i := 161) rfl) rfl
theorem wd_227 : Cond.code yX6_isSort prog_1_method_7_code 1 (some .boolean) ∈ mhT := mhT1 (List.mem_of_getElem? (i := 162) rfl) rfl
theorem wd_228 : Cond.methodLink "MirrorHouse" 61 yX6_within ∈ mhT := mhT1 (List.mem_of_getElem? (i := 163) rfl) rfl
theorem wd_229 : Cond.static yX6_within ∈ mhT := mhT1 (List.mem_of_getElem? (i := 164) rfl) rfl
theorem wd_230 : Cond.code yX6_within prog_1_method_5_code 3 (some .boolean) ∈ mhT := mhT1 (List.mem_of_getElem? (i := 165) rfl) rfl
theorem wd_231 : Cond.methodLink "MirrorHouse" 78 yX3_faultOfRow ∈ mhT := mhT1 (List.mem_of_getElem? (i := 166) rfl) rfl
theorem wd_232 : Cond.instanceMethod yX3_faultOfRow ∈ mhT := mhT1 (List.mem_of_getElem? (i := 167) rfl) rfl
theorem wd_233 : Cond.selects "MirrorHouse$Sheet" yX3_faultOfRow yX3_faultOfRow ∈ mhT := mhT1 (List.mem_of_getElem? (i := 168) rfl) rfl
theorem wd_234 : Cond.code yX3_faultOfRow prog_5_method_7_code 4 (some .int) ∈ mhT := mhT1 (List.mem_of_getElem? (i := 169) rfl) rfl
theorem wd_235 : Cond.methodLink "MirrorHouse$Sheet" 32 yX3_canBe ∈ mhT := mhT1 (List.mem_of_getElem? (i := 170) rfl) rfl
theorem wd_236 : Cond.instanceMethod yX3_canBe ∈ mhT := mhT1 (List.mem_of_getElem? (i := 171) rfl) rfl
theorem wd_237 : Cond.selects "MirrorHouse$Sheet" yX3_canBe yX3_canBe ∈ mhT := mhT1 (List.mem_of_getElem? (i := 172) rfl) rfl
theorem wd_238 : Cond.code yX3_canBe prog_5_method_4_code 2 (some .boolean) ∈ mhT := mhT1 (List.mem_of_getElem? (i := 173) rfl) rfl
theorem wd_239 : Cond.methodLink "MirrorHouse$Sheet" 28 yX3_isNothing ∈ mhT := mhT1 (List.mem_of_getElem? (i := 174) rfl) rfl
theorem wd_240 : Cond.instanceMethod yX3_isNothing ∈ mhT := mhT1 (List.mem_of_getElem? (i := 175) rfl) rfl
theorem wd_241 : Cond.selects "MirrorHouse$Sheet" yX3_isNothing yX3_isNothing ∈ mhT := mhT1 (List.mem_of_getElem? (i := 176) rfl) rfl
theorem wd_242 : Cond.code yX3_isNothing prog_5_method_3_code 1 (some .boolean) ∈ mhT := mhT1 (List.mem_of_getElem? (i := 177) rfl) rfl
theorem wd_243 : Cond.methodLink "MirrorHouse$Sheet" 36 yX3_hasCells ∈ mhT := mhT1 (List.mem_of_getElem? (i := 178) rfl) rfl
theorem wd_244 : Cond.instanceMethod yX3_hasCells ∈ mhT := mhT1 (List.mem_of_getElem? (i := 179) rfl) rfl
theorem wd_245 : Cond.selects "MirrorHouse$Sheet" yX3_hasCells yX3_hasCells ∈ mhT := mhT1 (List.mem_of_getElem? (i := 180) rfl) rfl
theorem wd_246 : Cond.code yX3_hasCells prog_5_method_5_code 3 (some .boolean) ∈ mhT := mhT1 (List.mem_of_getElem? (i := 181) rfl) rfl
theorem wd_247 : Cond.methodLink "MirrorHouse" 82 yX6_faulted ∈ mhT := mhT1 (List.mem_of_getElem? (i := 182) rfl) rfl
theorem wd_249 : Cond.instanceMethod yX6_faulted ∈ mhT := mhT1 (List.mem_of_getElem? (i := 184) rfl) rfl
theorem wd_250 : Cond.code yX6_faulted prog_1_method_9_code 2 (some .int) ∈ mhT := mhT1 (List.mem_of_getElem? (i := 185) rfl) rfl
theorem wd_251 : Cond.methodLink "MirrorHouse" 86 yX6_firstFaultOf ∈ mhT := mhT1 (List.mem_of_getElem? (i := 186) rfl) rfl
theorem wd_252 : Cond.static yX6_firstFaultOf ∈ mhT := mhT1 (List.mem_of_getElem? (i := 187) rfl) rfl
theorem wd_253 : Cond.code yX6_firstFaultOf prog_1_method_12_code 4 (some .int) ∈ mhT := mhT1 (List.mem_of_getElem? (i := 188) rfl) rfl
theorem wd_254 : Cond.methodLink "MirrorHouse" 94 yX6_goesOn ∈ mhT := mhT1 (List.mem_of_getElem? (i := 189) rfl) rfl
theorem wd_255 : Cond.static yX6_goesOn ∈ mhT := mhT1 (List.mem_of_getElem? (i := 190) rfl) rfl
theorem wd_256 : Cond.code yX6_goesOn prog_1_method_13_code 4 (some .boolean) ∈ mhT := mhT1 (List.mem_of_getElem? (i := 191) rfl) rfl
theorem wd_257 : Cond.methodLink "MirrorHouse" 98 yX6_lettersOf ∈ mhT := mhT1 (List.mem_of_getElem? (i := 192) rfl) rfl
theorem wd_258 : Cond.static yX6_lettersOf ∈ mhT := mhT1 (List.mem_of_getElem? (i := 193) rfl) rfl
theorem wd_259 : Cond.code yX6_lettersOf prog_1_method_14_code 2 (some .int) ∈ mhT := mhT1 (List.mem_of_getElem? (i := 194) rfl) rfl
theorem wd_260 : Cond.methodLink "MirrorHouse" 108 yX6_sidesOf ∈ mhT := mhT1 (List.mem_of_getElem? (i := 195) rfl) rfl
theorem wd_261 : Cond.static yX6_sidesOf ∈ mhT := mhT1 (List.mem_of_getElem? (i := 196) rfl) rfl
theorem wd_262 : Cond.code yX6_sidesOf prog_1_method_15_code 2 (some .int) ∈ mhT := mhT1 (List.mem_of_getElem? (i := 197) rfl) rfl
theorem wd_263 : Cond.methodLink "MirrorHouse" 105 yX6_kindOf ∈ mhT := mhT1 (List.mem_of_getElem? (i := 198) rfl) rfl
theorem wd_264 : Cond.static yX6_kindOf ∈ mhT := mhT1 (List.mem_of_getElem? (i := 199) rfl) rfl
theorem wd_265 : Cond.code yX6_kindOf prog_1_method_16_code 1 (some .int) ∈ mhT := mhT1 (List.mem_of_getElem? (i := 200) rfl) rfl
theorem wd_266 : Cond.methodLink "MirrorHouse" 90 yX6_builtBy ∈ mhT := mhT1 (List.mem_of_getElem? (i := 201) rfl) rfl
theorem wd_267 : Cond.static yX6_builtBy ∈ mhT := mhT1 (List.mem_of_getElem? (i := 202) rfl) rfl
theorem wd_268 : Cond.code yX6_builtBy prog_1_method_17_code 4 (some (.object "MirrorHouse$House")) ∈ mhT := mhT1 (List.mem_of_getElem? (i := 203) rfl) rfl
theorem wd_269 : Cond.instantiable "MirrorHouse$House" 18 ∈ mhT := mhT1 (List.mem_of_getElem? (i := 204) rfl) rfl
theorem wd_270 : Cond.methodLink "MirrorHouse" 112 yX1_init ∈ mhT := mhT1 (List.mem_of_getElem? (i := 205) rfl) rfl
theorem wd_271 : Cond.instanceMethod yX1_init ∈ mhT := mhT1 (List.mem_of_getElem? (i := 206) rfl) rfl
theorem wd_272 : Cond.code yX1_init prog_3_method_1_code 5 none ∈ mhT := mhT1 (List.mem_of_getElem? (i := 207) rfl) rfl
theorem wd_273 : Cond.methodLink "MirrorHouse$House" 3 Lib.objectInit ∈ mhT := mhT1 (List.mem_of_getElem? (i := 208) rfl) rfl
theorem wd_275 : Cond.methodLink "MirrorHouse$House" 71 yX1_placeSides ∈ mhT := mhT1 (List.mem_of_getElem? (i := 210) rfl) rfl
theorem wd_277 : Cond.instanceMethod yX1_placeSides ∈ mhT := mhT1 (List.mem_of_getElem? (i := 212) rfl) rfl
theorem wd_278 : Cond.code yX1_placeSides prog_3_method_3_code 4 none ∈ mhT := mhT1 (List.mem_of_getElem? (i := 213) rfl) rfl
theorem wd_279 : Cond.methodLink "MirrorHouse$House" 78 yX1_place ∈ mhT := mhT1 (List.mem_of_getElem? (i := 214) rfl) rfl
theorem wd_281 : Cond.instanceMethod yX1_place ∈ mhT := mhT1 (List.mem_of_getElem? (i := 216) rfl) rfl
theorem wd_282 : Cond.code yX1_place prog_3_method_4_code 5 none ∈ mhT := mhT1 (List.mem_of_getElem? (i := 217) rfl) rfl
theorem wd_283 : Cond.methodLink "MirrorHouse$House" 75 yX1_second ∈ mhT := mhT1 (List.mem_of_getElem? (i := 218) rfl) rfl
theorem wd_285 : Cond.instanceMethod yX1_second ∈ mhT := mhT1 (List.mem_of_getElem? (i := 220) rfl) rfl
theorem wd_286 : Cond.code yX1_second prog_3_method_2_code 3 (some .int) ∈ mhT := mhT1 (List.mem_of_getElem? (i := 221) rfl) rfl
theorem wd_287 : Cond.fieldLink "MirrorHouse$House" 55 "MirrorHouse$House" "w" "I" ∈ mhT := mhT1 (List.mem_of_getElem? (i := 222) rfl) rfl
theorem wd_288 : Cond.fieldLink "MirrorHouse$Change" 22 "MirrorHouse$House" "w" "I" ∈ mhT := mhT1 (List.mem_of_getElem? (i := 223) rfl) rfl
theorem wd_289 : Cond.fieldLink "MirrorHouse" 125 "MirrorHouse$House" "w" "I" ∈ mhT := mhT1 (List.mem_of_getElem? (i := 224) rfl) rfl
theorem wd_290 : Cond.fieldLink "MirrorHouse$House" 58 "MirrorHouse$House" "h" "I" ∈ mhT := mhT1 (List.mem_of_getElem? (i := 225) rfl) rfl
theorem wd_291 : Cond.fieldLink "MirrorHouse$Change" 27 "MirrorHouse$House" "h" "I" ∈ mhT := mhT1 (List.mem_of_getElem? (i := 226) rfl) rfl
theorem wd_292 : Cond.fieldLink "MirrorHouse" 128 "MirrorHouse$House" "h" "I" ∈ mhT := mhT1 (List.mem_of_getElem? (i := 227) rfl) rfl
theorem wd_293 : Cond.fieldLink "MirrorHouse$House" 61 "MirrorHouse$House" "rooms" "I" ∈ mhT := mhT1 (List.mem_of_getElem? (i := 228) rfl) rfl
theorem wd_294 : Cond.fieldLink "MirrorHouse" 131 "MirrorHouse$House" "rooms" "I" ∈ mhT := mhT1 (List.mem_of_getElem? (i := 229) rfl) rfl
theorem wd_295 : Cond.fieldLink "MirrorHouse$House" 68 "MirrorHouse$House" "sides" "I" ∈ mhT := mhT1 (List.mem_of_getElem? (i := 230) rfl) rfl
theorem wd_296 : Cond.fieldLink "MirrorHouse$Change" 30 "MirrorHouse$House" "sides" "I" ∈ mhT := mhT1 (List.mem_of_getElem? (i := 231) rfl) rfl
theorem wd_297 : Cond.fieldLink "MirrorHouse" 115 "MirrorHouse$House" "sides" "I" ∈ mhT := mhT1 (List.mem_of_getElem? (i := 232) rfl) rfl
theorem wd_298 : Cond.fieldLink "MirrorHouse$House" 9 "MirrorHouse$House" "panes" "[I" ∈ mhT := mhT1 (List.mem_of_getElem? (i := 233) rfl) rfl
theorem wd_299 : Cond.fieldLink "MirrorHouse$Change" 33 "MirrorHouse$House" "panes" "[I" ∈ mhT := mhT1 (List.mem_of_getElem? (i := 234) rfl) rfl
theorem wd_300 : Cond.fieldLink "MirrorHouse$Walker" 31 "MirrorHouse$House" "panes" "[I" ∈ mhT := mhT1 (List.mem_of_getElem? (i := 235) rfl) rfl
theorem wd_301 : Cond.fieldLink "MirrorHouse$Sight" 67 "MirrorHouse$House" "panes" "[I" ∈ mhT := mhT1 (List.mem_of_getElem? (i := 236) rfl) rfl
theorem wd_302 : Cond.fieldLink "MirrorHouse" 118 "MirrorHouse$House" "panes" "[I" ∈ mhT := mhT1 (List.mem_of_getElem? (i := 237) rfl) rfl
theorem wd_303 : Cond.fieldLink "MirrorHouse$House" 15 "MirrorHouse$House" "smeared" "[I" ∈ mhT := mhT1 (List.mem_of_getElem? (i := 238) rfl) rfl
theorem wd_304 : Cond.fieldLink "MirrorHouse$Walker" 48 "MirrorHouse$House" "smeared" "[I" ∈ mhT := mhT1 (List.mem_of_getElem? (i := 239) rfl) rfl
theorem wd_305 : Cond.fieldLink "MirrorHouse" 153 "MirrorHouse$House" "smeared" "[I" ∈ mhT := mhT2 (List.mem_of_getElem? (i := 0) rfl) rfl
theorem wd_306 : Cond.fieldLink "MirrorHouse$House" 18 "MirrorHouse$House" "wayOf" "[I" ∈ mhT := mhT2 (List.mem_of_getElem? (i := 1) rfl) rfl
theorem wd_307 : Cond.fieldLink "MirrorHouse" 144 "MirrorHouse$House" "wayOf" "[I" ∈ mhT := mhT2 (List.mem_of_getElem? (i := 2) rfl) rfl
theorem wd_308 : Cond.fieldLink "MirrorHouse$House" 21 "MirrorHouse$House" "evenBy" "[I" ∈ mhT := mhT2 (List.mem_of_getElem? (i := 3) rfl) rfl
theorem wd_309 : Cond.fieldLink "MirrorHouse" 147 "MirrorHouse$House" "evenBy" "[I" ∈ mhT := mhT2 (List.mem_of_getElem? (i := 4) rfl) rfl
theorem wd_310 : Cond.fieldLink "MirrorHouse$House" 24 "MirrorHouse$House" "oddBy" "[I" ∈ mhT := mhT2 (List.mem_of_getElem? (i := 5) rfl) rfl
theorem wd_311 : Cond.fieldLink "MirrorHouse" 150 "MirrorHouse$House" "oddBy" "[I" ∈ mhT := mhT2 (List.mem_of_getElem? (i := 6) rfl) rfl
theorem wd_312 : Cond.fieldLink "MirrorHouse$House" 27 "MirrorHouse$House" "firstToOpen" "I" ∈ mhT := mhT2 (List.mem_of_getElem? (i := 7) rfl) rfl
theorem wd_313 : Cond.fieldLink "MirrorHouse" 296 "MirrorHouse$House" "firstToOpen" "I" ∈ mhT := mhT2 (List.mem_of_getElem? (i := 8) rfl) rfl
theorem wd_314 : Cond.fieldLink "MirrorHouse$House" 31 "MirrorHouse$House" "secondToOpen" "I" ∈ mhT := mhT2 (List.mem_of_getElem? (i := 9) rfl) rfl
theorem wd_315 : Cond.fieldLink "MirrorHouse" 299 "MirrorHouse$House" "secondToOpen" "I" ∈ mhT := mhT2 (List.mem_of_getElem? (i := 10) rfl) rfl
theorem wd_316 : Cond.fieldLink "MirrorHouse$House" 34 "MirrorHouse$House" "keptTicks" "I" ∈ mhT := mhT2 (List.mem_of_getElem? (i := 11) rfl) rfl
theorem wd_317 : Cond.fieldLink "MirrorHouse" 313 "MirrorHouse$House" "keptTicks" "I" ∈ mhT := mhT2 (List.mem_of_getElem? (i := 12) rfl) rfl
theorem wd_318 : Cond.fieldLink "MirrorHouse$House" 37 "MirrorHouse$House" "keptBy" "I" ∈ mhT := mhT2 (List.mem_of_getElem? (i := 13) rfl) rfl
theorem wd_319 : Cond.fieldLink "MirrorHouse" 316 "MirrorHouse$House" "keptBy" "I" ∈ mhT := mhT2 (List.mem_of_getElem? (i := 14) rfl) rfl
theorem wd_320 : Cond.fieldLink "MirrorHouse$House" 40 "MirrorHouse$House" "sidesBy" "[I" ∈ mhT := mhT2 (List.mem_of_getElem? (i := 15) rfl) rfl
theorem wd_321 : Cond.fieldLink "MirrorHouse$House" 43 "MirrorHouse$House" "trial" "[I" ∈ mhT := mhT2 (List.mem_of_getElem? (i := 16) rfl) rfl
theorem wd_322 : Cond.fieldLink "MirrorHouse$House" 46 "MirrorHouse$House" "opens" "[I" ∈ mhT := mhT2 (List.mem_of_getElem? (i := 17) rfl) rfl
theorem wd_323 : Cond.fieldLink "MirrorHouse$House" 49 "MirrorHouse$House" "opensNow" "[I" ∈ mhT := mhT2 (List.mem_of_getElem? (i := 18) rfl) rfl
theorem wd_324 : Cond.fieldLink "MirrorHouse$House" 52 "MirrorHouse$House" "toOdd" "[I" ∈ mhT := mhT2 (List.mem_of_getElem? (i := 19) rfl) rfl
theorem wd_362 : Cond.methodLink "MirrorHouseLaw" 18 yX6_ofHouse ∈ mhT := mhT2 (List.mem_of_getElem? (i := 57) rfl) rfl
theorem wd_363 : Cond.instanceMethod yX6_ofHouse ∈ mhT := mhT2 (List.mem_of_getElem? (i := 58) rfl) rfl
theorem wd_364 : Cond.selects "MirrorHouse" yX6_ofHouse yX6_ofHouse ∈ mhT := mhT2 (List.mem_of_getElem? (i := 59) rfl) rfl
theorem wd_365 : Cond.code yX6_ofHouse prog_1_method_18_code 4 (some .int) ∈ mhT := mhT2 (List.mem_of_getElem? (i := 60) rfl) rfl
theorem wd_366 : Cond.methodLink "MirrorHouse" 121 yX6_houseAt ∈ mhT := mhT2 (List.mem_of_getElem? (i := 61) rfl) rfl
theorem wd_368 : Cond.instanceMethod yX6_houseAt ∈ mhT := mhT2 (List.mem_of_getElem? (i := 63) rfl) rfl
theorem wd_369 : Cond.code yX6_houseAt prog_1_method_2_code 2 (some (.object "MirrorHouse$House")) ∈ mhT := mhT2 (List.mem_of_getElem? (i := 64) rfl) rfl
theorem wd_370 : Cond.methodLink "MirrorHouse" 134 yX1_panesOf ∈ mhT := mhT2 (List.mem_of_getElem? (i := 65) rfl) rfl
theorem wd_371 : Cond.instanceMethod yX1_panesOf ∈ mhT := mhT2 (List.mem_of_getElem? (i := 66) rfl) rfl
theorem wd_372 : Cond.selects "MirrorHouse$House" yX1_panesOf yX1_panesOf ∈ mhT := mhT2 (List.mem_of_getElem? (i := 67) rfl) rfl
theorem wd_373 : Cond.code yX1_panesOf prog_3_method_10_code 4 (some .int) ∈ mhT := mhT2 (List.mem_of_getElem? (i := 68) rfl) rfl
theorem wd_374 : Cond.methodLink "MirrorHouse" 137 yX1_smears ∈ mhT := mhT2 (List.mem_of_getElem? (i := 69) rfl) rfl
theorem wd_375 : Cond.instanceMethod yX1_smears ∈ mhT := mhT2 (List.mem_of_getElem? (i := 70) rfl) rfl
theorem wd_376 : Cond.selects "MirrorHouse$House" yX1_smears yX1_smears ∈ mhT := mhT2 (List.mem_of_getElem? (i := 71) rfl) rfl
theorem wd_377 : Cond.code yX1_smears prog_3_method_11_code 3 (some .int) ∈ mhT := mhT2 (List.mem_of_getElem? (i := 72) rfl) rfl
theorem wd_378 : Cond.methodLink "MirrorHouseLaw" 23 yX6_ofSide ∈ mhT := mhT2 (List.mem_of_getElem? (i := 73) rfl) rfl
theorem wd_379 : Cond.instanceMethod yX6_ofSide ∈ mhT := mhT2 (List.mem_of_getElem? (i := 74) rfl) rfl
theorem wd_380 : Cond.selects "MirrorHouse" yX6_ofSide yX6_ofSide ∈ mhT := mhT2 (List.mem_of_getElem? (i := 75) rfl) rfl
theorem wd_381 : Cond.code yX6_ofSide prog_1_method_19_code 5 (some .int) ∈ mhT := mhT2 (List.mem_of_getElem? (i := 76) rfl) rfl
theorem wd_382 : Cond.methodLink "MirrorHouse" 141 yX1_hasSide ∈ mhT := mhT2 (List.mem_of_getElem? (i := 77) rfl) rfl
theorem wd_383 : Cond.instanceMethod yX1_hasSide ∈ mhT := mhT2 (List.mem_of_getElem? (i := 78) rfl) rfl
theorem wd_384 : Cond.selects "MirrorHouse$House" yX1_hasSide yX1_hasSide ∈ mhT := mhT2 (List.mem_of_getElem? (i := 79) rfl) rfl
theorem wd_385 : Cond.code yX1_hasSide prog_3_method_6_code 2 (some .boolean) ∈ mhT := mhT2 (List.mem_of_getElem? (i := 80) rfl) rfl
theorem wd_387 : Cond.methodLink "MirrorHouseLaw" 28 yX6_side ∈ mhT := mhT2 (List.mem_of_getElem? (i := 82) rfl) rfl
theorem wd_388 : Cond.instanceMethod yX6_side ∈ mhT := mhT2 (List.mem_of_getElem? (i := 83) rfl) rfl
theorem wd_389 : Cond.selects "MirrorHouse" yX6_side yX6_side ∈ mhT := mhT2 (List.mem_of_getElem? (i := 84) rfl) rfl
theorem wd_390 : Cond.code yX6_side prog_1_method_20_code 5 (some .int) ∈ mhT := mhT2 (List.mem_of_getElem? (i := 85) rfl) rfl
theorem wd_391 : Cond.methodLink "MirrorHouse" 156 yX1_hasRoom ∈ mhT := mhT2 (List.mem_of_getElem? (i := 86) rfl) rfl
theorem wd_392 : Cond.instanceMethod yX1_hasRoom ∈ mhT := mhT2 (List.mem_of_getElem? (i := 87) rfl) rfl
theorem wd_393 : Cond.selects "MirrorHouse$House" yX1_hasRoom yX1_hasRoom ∈ mhT := mhT2 (List.mem_of_getElem? (i := 88) rfl) rfl
theorem wd_394 : Cond.code yX1_hasRoom prog_3_method_5_code 2 (some .boolean) ∈ mhT := mhT2 (List.mem_of_getElem? (i := 89) rfl) rfl
theorem wd_395 : Cond.methodLink "MirrorHouse" 159 yX6_isWay ∈ mhT := mhT2 (List.mem_of_getElem? (i := 90) rfl) rfl
theorem wd_396 : Cond.static yX6_isWay ∈ mhT := mhT2 (List.mem_of_getElem? (i := 91) rfl) rfl
theorem wd_397 : Cond.code yX6_isWay prog_1_method_6_code 1 (some .boolean) ∈ mhT := mhT2 (List.mem_of_getElem? (i := 92) rfl) rfl
theorem wd_398 : Cond.methodLink "MirrorHouse" 162 yX1_sideOf ∈ mhT := mhT2 (List.mem_of_getElem? (i := 93) rfl) rfl
theorem wd_399 : Cond.instanceMethod yX1_sideOf ∈ mhT := mhT2 (List.mem_of_getElem? (i := 94) rfl) rfl
theorem wd_400 : Cond.selects "MirrorHouse$House" yX1_sideOf yX1_sideOf ∈ mhT := mhT2 (List.mem_of_getElem? (i := 95) rfl) rfl
theorem wd_401 : Cond.code yX1_sideOf prog_3_method_8_code 3 (some .int) ∈ mhT := mhT2 (List.mem_of_getElem? (i := 96) rfl) rfl
theorem wd_402 : Cond.methodLink "MirrorHouseLaw" 32 yX6_pane ∈ mhT := mhT2 (List.mem_of_getElem? (i := 97) rfl) rfl
theorem wd_403 : Cond.instanceMethod yX6_pane ∈ mhT := mhT2 (List.mem_of_getElem? (i := 98) rfl) rfl
theorem wd_404 : Cond.selects "MirrorHouse" yX6_pane yX6_pane ∈ mhT := mhT2 (List.mem_of_getElem? (i := 99) rfl) rfl
theorem wd_405 : Cond.code yX6_pane prog_1_method_21_code 5 (some .int) ∈ mhT := mhT2 (List.mem_of_getElem? (i := 100) rfl) rfl
theorem wd_406 : Cond.methodLink "MirrorHouse" 165 yX1_become ∈ mhT := mhT2 (List.mem_of_getElem? (i := 101) rfl) rfl
theorem wd_407 : Cond.instanceMethod yX1_become ∈ mhT := mhT2 (List.mem_of_getElem? (i := 102) rfl) rfl
theorem wd_408 : Cond.selects "MirrorHouse$House" yX1_become yX1_become ∈ mhT := mhT2 (List.mem_of_getElem? (i := 103) rfl) rfl
theorem wd_409 : Cond.code yX1_become prog_3_method_12_code 4 (some .int) ∈ mhT := mhT2 (List.mem_of_getElem? (i := 104) rfl) rfl
theorem wd_410 : Cond.methodLink "MirrorHouseLaw" 36 yX6_seen ∈ mhT := mhT2 (List.mem_of_getElem? (i := 105) rfl) rfl
theorem wd_411 : Cond.instanceMethod yX6_seen ∈ mhT := mhT2 (List.mem_of_getElem? (i := 106) rfl) rfl
theorem wd_412 : Cond.selects "MirrorHouse" yX6_seen yX6_seen ∈ mhT := mhT2 (List.mem_of_getElem? (i := 107) rfl) rfl
theorem wd_413 : Cond.code yX6_seen prog_1_method_22_code 8 (some .int) ∈ mhT := mhT2 (List.mem_of_getElem? (i := 108) rfl) rfl
theorem wd_414 : Cond.methodLink "MirrorHouse" 168 yX6_isTurn ∈ mhT := mhT2 (List.mem_of_getElem? (i := 109) rfl) rfl
theorem wd_415 : Cond.static yX6_isTurn ∈ mhT := mhT2 (List.mem_of_getElem? (i := 110) rfl) rfl
theorem wd_416 : Cond.code yX6_isTurn prog_1_method_8_code 2 (some .boolean) ∈ mhT := mhT2 (List.mem_of_getElem? (i := 111) rfl) rfl
theorem wd_417 : Cond.methodLink "MirrorHouse" 172 yX4_look ∈ mhT := mhT2 (List.mem_of_getElem? (i := 112) rfl) rfl
theorem wd_418 : Cond.instanceMethod yX4_look ∈ mhT := mhT2 (List.mem_of_getElem? (i := 113) rfl) rfl
theorem wd_419 : Cond.selects "MirrorHouse$Sight" yX4_look yX4_look ∈ mhT := mhT2 (List.mem_of_getElem? (i := 114) rfl) rfl
theorem wd_420 : Cond.code yX4_look prog_6_method_2_code 7 none ∈ mhT := mhT2 (List.mem_of_getElem? (i := 115) rfl) rfl
theorem wd_421 : Cond.methodLink "MirrorHouse$Sight" 21 yX4_setOut ∈ mhT := mhT2 (List.mem_of_getElem? (i := 116) rfl) rfl
theorem wd_423 : Cond.instanceMethod yX4_setOut ∈ mhT := mhT2 (List.mem_of_getElem? (i := 118) rfl) rfl
theorem wd_424 : Cond.code yX4_setOut prog_6_method_3_code 5 none ∈ mhT := mhT2 (List.mem_of_getElem? (i := 119) rfl) rfl
theorem wd_425 : Cond.methodLink "MirrorHouse$Sight" 45 yX4_thirdsIn ∈ mhT := mhT2 (List.mem_of_getElem? (i := 120) rfl) rfl
theorem wd_426 : Cond.static yX4_thirdsIn ∈ mhT := mhT2 (List.mem_of_getElem? (i := 121) rfl) rfl
theorem wd_427 : Cond.code yX4_thirdsIn prog_6_method_4_code 1 (some .int) ∈ mhT := mhT2 (List.mem_of_getElem? (i := 122) rfl) rfl
theorem wd_428 : Cond.methodLink "MirrorHouse$Sight" 49 yX4_aim ∈ mhT := mhT2 (List.mem_of_getElem? (i := 123) rfl) rfl
theorem wd_430 : Cond.instanceMethod yX4_aim ∈ mhT := mhT2 (List.mem_of_getElem? (i := 125) rfl) rfl
theorem wd_431 : Cond.code yX4_aim prog_6_method_5_code 5 none ∈ mhT := mhT2 (List.mem_of_getElem? (i := 126) rfl) rfl
theorem wd_432 : Cond.methodLink "MirrorHouse$Sight" 52 Lib.Math.abs.name ∈ mhT := mhT2 (List.mem_of_getElem? (i := 127) rfl) rfl
theorem wd_433 : Cond.static Lib.Math.abs.name ∈ mhT := mhT2 (List.mem_of_getElem? (i := 128) rfl) rfl
theorem wd_434 : Cond.code Lib.Math.abs.name Lib.Math.abs.code 1 (some .int) ∈ mhT := mhT2 (List.mem_of_getElem? (i := 129) rfl) rfl
theorem wd_435 : Cond.methodLink "MirrorHouse$Sight" 29 yX4_goOn ∈ mhT := mhT2 (List.mem_of_getElem? (i := 130) rfl) rfl
theorem wd_437 : Cond.instanceMethod yX4_goOn ∈ mhT := mhT2 (List.mem_of_getElem? (i := 132) rfl) rfl
theorem wd_438 : Cond.code yX4_goOn prog_6_method_6_code 4 none ∈ mhT := mhT2 (List.mem_of_getElem? (i := 133) rfl) rfl
theorem wd_439 : Cond.methodLink "MirrorHouse$Sight" 57 yX4_nextWay ∈ mhT := mhT2 (List.mem_of_getElem? (i := 134) rfl) rfl
theorem wd_441 : Cond.instanceMethod yX4_nextWay ∈ mhT := mhT2 (List.mem_of_getElem? (i := 136) rfl) rfl
theorem wd_442 : Cond.code yX4_nextWay prog_6_method_7_code 5 (some .int) ∈ mhT := mhT2 (List.mem_of_getElem? (i := 137) rfl) rfl
theorem wd_443 : Cond.methodLink "MirrorHouse$Sight" 61 yX1_sideOf ∈ mhT := mhT2 (List.mem_of_getElem? (i := 138) rfl) rfl
theorem wd_444 : Cond.methodLink "MirrorHouse$Sight" 70 yX4_foldOver ∈ mhT := mhT2 (List.mem_of_getElem? (i := 139) rfl) rfl
theorem wd_446 : Cond.instanceMethod yX4_foldOver ∈ mhT := mhT2 (List.mem_of_getElem? (i := 141) rfl) rfl
theorem wd_447 : Cond.code yX4_foldOver prog_6_method_8_code 5 none ∈ mhT := mhT2 (List.mem_of_getElem? (i := 142) rfl) rfl
theorem wd_448 : Cond.methodLink "MirrorHouse$Sight" 74 yX1_behind ∈ mhT := mhT2 (List.mem_of_getElem? (i := 143) rfl) rfl
theorem wd_449 : Cond.instanceMethod yX1_behind ∈ mhT := mhT2 (List.mem_of_getElem? (i := 144) rfl) rfl
theorem wd_450 : Cond.selects "MirrorHouse$House" yX1_behind yX1_behind ∈ mhT := mhT2 (List.mem_of_getElem? (i := 145) rfl) rfl
theorem wd_451 : Cond.code yX1_behind prog_3_method_9_code 4 (some .int) ∈ mhT := mhT2 (List.mem_of_getElem? (i := 146) rfl) rfl
theorem wd_452 : Cond.methodLink "MirrorHouse$House" 86 yX1_sideOf ∈ mhT := mhT2 (List.mem_of_getElem? (i := 147) rfl) rfl
theorem wd_453 : Cond.methodLink "MirrorHouseLaw" 41 yX6_met ∈ mhT := mhT2 (List.mem_of_getElem? (i := 148) rfl) rfl
theorem wd_454 : Cond.instanceMethod yX6_met ∈ mhT := mhT2 (List.mem_of_getElem? (i := 149) rfl) rfl
theorem wd_455 : Cond.selects "MirrorHouse" yX6_met yX6_met ∈ mhT := mhT2 (List.mem_of_getElem? (i := 150) rfl) rfl
theorem wd_456 : Cond.code yX6_met prog_1_method_23_code 7 (some .int) ∈ mhT := mhT2 (List.mem_of_getElem? (i := 151) rfl) rfl
theorem wd_457 : Cond.methodLink "MirrorHouseLaw" 46 yX6_image ∈ mhT := mhT2 (List.mem_of_getElem? (i := 152) rfl) rfl
theorem wd_458 : Cond.instanceMethod yX6_image ∈ mhT := mhT2 (List.mem_of_getElem? (i := 153) rfl) rfl
theorem wd_459 : Cond.selects "MirrorHouse" yX6_image yX6_image ∈ mhT := mhT2 (List.mem_of_getElem? (i := 154) rfl) rfl
theorem wd_460 : Cond.code yX6_image prog_1_method_24_code 6 (some .int) ∈ mhT := mhT2 (List.mem_of_getElem? (i := 155) rfl) rfl
theorem wd_461 : Cond.methodLink "MirrorHouse" 191 yX4_imageBy ∈ mhT := mhT2 (List.mem_of_getElem? (i := 156) rfl) rfl
theorem wd_462 : Cond.instanceMethod yX4_imageBy ∈ mhT := mhT2 (List.mem_of_getElem? (i := 157) rfl) rfl
theorem wd_463 : Cond.selects "MirrorHouse$Sight" yX4_imageBy yX4_imageBy ∈ mhT := mhT2 (List.mem_of_getElem? (i := 158) rfl) rfl
theorem wd_464 : Cond.code yX4_imageBy prog_6_method_9_code 8 (some .int) ∈ mhT := mhT2 (List.mem_of_getElem? (i := 159) rfl) rfl
theorem wd_465 : Cond.methodLink "MirrorHouse$Sight" 77 yJ9_floorMod_7cf53 ∈ mhT := mhT2 (List.mem_of_getElem? (i := 160) rfl) rfl
theorem wd_466 : Cond.static yJ9_floorMod_7cf53 ∈ mhT := mhT2 (List.mem_of_getElem? (i := 161) rfl) rfl
theorem wd_467 : Cond.code yJ9_floorMod_7cf53 prog_10_method_50_code 3 (some .int) ∈ mhT := mhT2 (List.mem_of_getElem? (i := 162) rfl) rfl
theorem wd_468 : Cond.methodLink "MirrorHouse$Sight" 80 yX4_crossesMore ∈ mhT := mhT2 (List.mem_of_getElem? (i := 163) rfl) rfl
theorem wd_470 : Cond.instanceMethod yX4_crossesMore ∈ mhT := mhT2 (List.mem_of_getElem? (i := 165) rfl) rfl
theorem wd_471 : Cond.code yX4_crossesMore prog_6_method_10_code 2 (some .boolean) ∈ mhT := mhT2 (List.mem_of_getElem? (i := 166) rfl) rfl
theorem wd_472 : Cond.methodLink "MirrorHouseLaw" 50 yX6_images ∈ mhT := mhT2 (List.mem_of_getElem? (i := 167) rfl) rfl
theorem wd_473 : Cond.instanceMethod yX6_images ∈ mhT := mhT2 (List.mem_of_getElem? (i := 168) rfl) rfl
theorem wd_474 : Cond.selects "MirrorHouse" yX6_images yX6_images ∈ mhT := mhT2 (List.mem_of_getElem? (i := 169) rfl) rfl
theorem wd_475 : Cond.code yX6_images prog_1_method_25_code 7 (some .int) ∈ mhT := mhT2 (List.mem_of_getElem? (i := 170) rfl) rfl
theorem wd_476 : Cond.methodLink "MirrorHouse" 195 yX4_seek ∈ mhT := mhT2 (List.mem_of_getElem? (i := 171) rfl) rfl
theorem wd_477 : Cond.instanceMethod yX4_seek ∈ mhT := mhT2 (List.mem_of_getElem? (i := 172) rfl) rfl
theorem wd_478 : Cond.selects "MirrorHouse$Sight" yX4_seek yX4_seek ∈ mhT := mhT2 (List.mem_of_getElem? (i := 173) rfl) rfl
theorem wd_479 : Cond.code yX4_seek prog_6_method_11_code 9 none ∈ mhT := mhT2 (List.mem_of_getElem? (i := 174) rfl) rfl
theorem wd_480 : Cond.methodLink "MirrorHouse$Sight" 87 yX4_imageBy ∈ mhT := mhT2 (List.mem_of_getElem? (i := 175) rfl) rfl
theorem wd_481 : Cond.methodLink "MirrorHouseLaw" 54 yX6_report ∈ mhT := mhT2 (List.mem_of_getElem? (i := 176) rfl) rfl
theorem wd_482 : Cond.instanceMethod yX6_report ∈ mhT := mhT2 (List.mem_of_getElem? (i := 177) rfl) rfl
theorem wd_483 : Cond.selects "MirrorHouse" yX6_report yX6_report ∈ mhT := mhT2 (List.mem_of_getElem? (i := 178) rfl) rfl
theorem wd_484 : Cond.code yX6_report prog_1_method_26_code 7 (some .int) ∈ mhT := mhT2 (List.mem_of_getElem? (i := 179) rfl) rfl
theorem wd_485 : Cond.instantiable "MirrorHouse$Report" 5 ∈ mhT := mhT2 (List.mem_of_getElem? (i := 180) rfl) rfl
theorem wd_486 : Cond.methodLink "MirrorHouse" 211 yX2_init ∈ mhT := mhT2 (List.mem_of_getElem? (i := 181) rfl) rfl
theorem wd_487 : Cond.instanceMethod yX2_init ∈ mhT := mhT2 (List.mem_of_getElem? (i := 182) rfl) rfl
theorem wd_488 : Cond.code yX2_init prog_4_method_1_code 6 none ∈ mhT := mhT2 (List.mem_of_getElem? (i := 183) rfl) rfl
theorem wd_489 : Cond.methodLink "MirrorHouse$Report" 1 Lib.objectInit ∈ mhT := mhT2 (List.mem_of_getElem? (i := 184) rfl) rfl
theorem wd_490 : Cond.fieldLink "MirrorHouse$Report" 7 "MirrorHouse$Report" "houseNumber" "I" ∈ mhT := mhT2 (List.mem_of_getElem? (i := 185) rfl) rfl
theorem wd_491 : Cond.fieldLink "MirrorHouse" 217 "MirrorHouse$Report" "houseNumber" "I" ∈ mhT := mhT2 (List.mem_of_getElem? (i := 186) rfl) rfl
theorem wd_492 : Cond.fieldLink "MirrorHouse$Report" 13 "MirrorHouse$Report" "room" "I" ∈ mhT := mhT2 (List.mem_of_getElem? (i := 187) rfl) rfl
theorem wd_493 : Cond.fieldLink "MirrorHouse" 224 "MirrorHouse$Report" "room" "I" ∈ mhT := mhT2 (List.mem_of_getElem? (i := 188) rfl) rfl
theorem wd_494 : Cond.fieldLink "MirrorHouse$Report" 16 "MirrorHouse$Report" "p" "I" ∈ mhT := mhT2 (List.mem_of_getElem? (i := 189) rfl) rfl
theorem wd_495 : Cond.fieldLink "MirrorHouse" 225 "MirrorHouse$Report" "p" "I" ∈ mhT := mhT2 (List.mem_of_getElem? (i := 190) rfl) rfl
theorem wd_496 : Cond.fieldLink "MirrorHouse$Report" 19 "MirrorHouse$Report" "q" "I" ∈ mhT := mhT2 (List.mem_of_getElem? (i := 191) rfl) rfl
theorem wd_497 : Cond.fieldLink "MirrorHouse" 228 "MirrorHouse$Report" "q" "I" ∈ mhT := mhT2 (List.mem_of_getElem? (i := 192) rfl) rfl
theorem wd_498 : Cond.fieldLink "MirrorHouse$Report" 22 "MirrorHouse$Report" "saw" "Z" ∈ mhT := mhT2 (List.mem_of_getElem? (i := 193) rfl) rfl
theorem wd_499 : Cond.fieldLink "MirrorHouse" 231 "MirrorHouse$Report" "saw" "Z" ∈ mhT := mhT2 (List.mem_of_getElem? (i := 194) rfl) rfl
theorem wd_511 : Cond.methodLink "MirrorHouseLaw" 59 yX6_spots ∈ mhT := mhT2 (List.mem_of_getElem? (i := 206) rfl) rfl
theorem wd_512 : Cond.instanceMethod yX6_spots ∈ mhT := mhT2 (List.mem_of_getElem? (i := 207) rfl) rfl
theorem wd_513 : Cond.selects "MirrorHouse" yX6_spots yX6_spots ∈ mhT := mhT2 (List.mem_of_getElem? (i := 208) rfl) rfl
theorem wd_514 : Cond.code yX6_spots prog_1_method_27_code 6 (some .int) ∈ mhT := mhT2 (List.mem_of_getElem? (i := 209) rfl) rfl
theorem wd_515 : Cond.methodLink "MirrorHouse" 214 yX1_allRooms ∈ mhT := mhT2 (List.mem_of_getElem? (i := 210) rfl) rfl
theorem wd_516 : Cond.instanceMethod yX1_allRooms ∈ mhT := mhT2 (List.mem_of_getElem? (i := 211) rfl) rfl
theorem wd_517 : Cond.selects "MirrorHouse$House" yX1_allRooms yX1_allRooms ∈ mhT := mhT2 (List.mem_of_getElem? (i := 212) rfl) rfl
theorem wd_518 : Cond.code yX1_allRooms prog_3_method_7_code 1 (some .int) ∈ mhT := mhT2 (List.mem_of_getElem? (i := 213) rfl) rfl
theorem wd_519 : Cond.methodLink "MirrorHouse" 220 yX6_fits ∈ mhT := mhT2 (List.mem_of_getElem? (i := 214) rfl) rfl
theorem wd_521 : Cond.instanceMethod yX6_fits ∈ mhT := mhT2 (List.mem_of_getElem? (i := 216) rfl) rfl
theorem wd_522 : Cond.code yX6_fits prog_1_method_28_code 5 (some .int) ∈ mhT := mhT2 (List.mem_of_getElem? (i := 217) rfl) rfl
theorem wd_523 : Cond.methodLink "MirrorHouseLaw" 64 yX6_photograph ∈ mhT := mhT2 (List.mem_of_getElem? (i := 218) rfl) rfl
theorem wd_524 : Cond.instanceMethod yX6_photograph ∈ mhT := mhT2 (List.mem_of_getElem? (i := 219) rfl) rfl
theorem wd_525 : Cond.selects "MirrorHouse" yX6_photograph yX6_photograph ∈ mhT := mhT2 (List.mem_of_getElem? (i := 220) rfl) rfl
theorem wd_526 : Cond.code yX6_photograph prog_1_method_29_code 8 (some .int) ∈ mhT := mhT2 (List.mem_of_getElem? (i := 221) rfl) rfl
theorem wd_527 : Cond.methodLink "MirrorHouse" 235 arraycopyName ∈ mhT := mhT2 (List.mem_of_getElem? (i := 222) rfl) rfl
theorem wd_528 : Cond.static arraycopyName ∈ mhT := mhT2 (List.mem_of_getElem? (i := 223) rfl) rfl
theorem wd_529 : Cond.native arraycopyName ∈ mhT := mhT2 (List.mem_of_getElem? (i := 224) rfl) rfl
theorem wd_530 : Cond.methodLink "MirrorHouseLaw" 68 yX6_taken ∈ mhT := mhT2 (List.mem_of_getElem? (i := 225) rfl) rfl
theorem wd_531 : Cond.instanceMethod yX6_taken ∈ mhT := mhT2 (List.mem_of_getElem? (i := 226) rfl) rfl
theorem wd_532 : Cond.selects "MirrorHouse" yX6_taken yX6_taken ∈ mhT := mhT2 (List.mem_of_getElem? (i := 227) rfl) rfl
theorem wd_533 : Cond.code yX6_taken prog_1_method_30_code 5 (some .int) ∈ mhT := mhT2 (List.mem_of_getElem? (i := 228) rfl) rfl
theorem wd_534 : Cond.methodLink "MirrorHouse" 244 yX6_showsPhotoFrom ∈ mhT := mhT2 (List.mem_of_getElem? (i := 229) rfl) rfl
theorem wd_536 : Cond.instanceMethod yX6_showsPhotoFrom ∈ mhT := mhT2 (List.mem_of_getElem? (i := 231) rfl) rfl
theorem wd_537 : Cond.code yX6_showsPhotoFrom prog_1_method_31_code 5 (some .boolean) ∈ mhT := mhT2 (List.mem_of_getElem? (i := 232) rfl) rfl
theorem wd_538 : Cond.methodLink "MirrorHouseLaw" 72 yX6_walker ∈ mhT := mhT2 (List.mem_of_getElem? (i := 233) rfl) rfl
theorem wd_539 : Cond.instanceMethod yX6_walker ∈ mhT := mhT2 (List.mem_of_getElem? (i := 234) rfl) rfl
theorem wd_540 : Cond.selects "MirrorHouse" yX6_walker yX6_walker ∈ mhT := mhT2 (List.mem_of_getElem? (i := 235) rfl) rfl
theorem wd_541 : Cond.code yX6_walker prog_1_method_32_code 6 (some .int) ∈ mhT := mhT2 (List.mem_of_getElem? (i := 236) rfl) rfl
theorem wd_542 : Cond.instantiable "MirrorHouse$Walker" 8 ∈ mhT := mhT2 (List.mem_of_getElem? (i := 237) rfl) rfl
theorem wd_543 : Cond.methodLink "MirrorHouse" 248 yX5_init ∈ mhT := mhT2 (List.mem_of_getElem? (i := 238) rfl) rfl
theorem wd_544 : Cond.instanceMethod yX5_init ∈ mhT := mhT2 (List.mem_of_getElem? (i := 239) rfl) rfl
theorem wd_545 : Cond.code yX5_init prog_7_method_1_code 5 none ∈ mhT := mhT3 (List.mem_of_getElem? (i := 0) rfl) rfl
theorem wd_546 : Cond.methodLink "MirrorHouse$Walker" 3 Lib.objectInit ∈ mhT := mhT3 (List.mem_of_getElem? (i := 1) rfl) rfl
theorem wd_547 : Cond.fieldLink "MirrorHouse$Walker" 15 "MirrorHouse$Walker" "kind" "I" ∈ mhT := mhT3 (List.mem_of_getElem? (i := 2) rfl) rfl
theorem wd_548 : Cond.fieldLink "MirrorHouse" 271 "MirrorHouse$Walker" "kind" "I" ∈ mhT := mhT3 (List.mem_of_getElem? (i := 3) rfl) rfl
theorem wd_549 : Cond.fieldLink "MirrorHouse$Walker" 19 "MirrorHouse$Walker" "houseNumber" "I" ∈ mhT := mhT3 (List.mem_of_getElem? (i := 4) rfl) rfl
theorem wd_550 : Cond.fieldLink "MirrorHouse" 258 "MirrorHouse$Walker" "houseNumber" "I" ∈ mhT := mhT3 (List.mem_of_getElem? (i := 5) rfl) rfl
theorem wd_551 : Cond.fieldLink "MirrorHouse$Walker" 22 "MirrorHouse$Walker" "room" "I" ∈ mhT := mhT3 (List.mem_of_getElem? (i := 6) rfl) rfl
theorem wd_552 : Cond.fieldLink "MirrorHouse" 274 "MirrorHouse$Walker" "room" "I" ∈ mhT := mhT3 (List.mem_of_getElem? (i := 7) rfl) rfl
theorem wd_553 : Cond.fieldLink "MirrorHouse$Walker" 25 "MirrorHouse$Walker" "came" "I" ∈ mhT := mhT3 (List.mem_of_getElem? (i := 8) rfl) rfl
theorem wd_554 : Cond.fieldLink "MirrorHouse" 275 "MirrorHouse$Walker" "came" "I" ∈ mhT := mhT3 (List.mem_of_getElem? (i := 9) rfl) rfl
theorem wd_555 : Cond.fieldLink "MirrorHouse$Walker" 54 "MirrorHouse$Walker" "went" "I" ∈ mhT := mhT3 (List.mem_of_getElem? (i := 10) rfl) rfl
theorem wd_556 : Cond.fieldLink "MirrorHouse" 278 "MirrorHouse$Walker" "went" "I" ∈ mhT := mhT3 (List.mem_of_getElem? (i := 11) rfl) rfl
theorem wd_557 : Cond.fieldLink "MirrorHouse$Walker" 51 "MirrorHouse$Walker" "ran" "I" ∈ mhT := mhT3 (List.mem_of_getElem? (i := 12) rfl) rfl
theorem wd_558 : Cond.fieldLink "MirrorHouse" 281 "MirrorHouse$Walker" "ran" "I" ∈ mhT := mhT3 (List.mem_of_getElem? (i := 13) rfl) rfl
theorem wd_559 : Cond.fieldLink "MirrorHouse$Walker" 28 "MirrorHouse$Walker" "lived" "I" ∈ mhT := mhT3 (List.mem_of_getElem? (i := 14) rfl) rfl
theorem wd_560 : Cond.fieldLink "MirrorHouse" 284 "MirrorHouse$Walker" "lived" "I" ∈ mhT := mhT3 (List.mem_of_getElem? (i := 15) rfl) rfl
theorem wd_561 : Cond.fieldLink "MirrorHouse$Walker" 9 "MirrorHouse$Walker" "times" "[I" ∈ mhT := mhT3 (List.mem_of_getElem? (i := 16) rfl) rfl
theorem wd_579 : Cond.methodLink "MirrorHouseLaw" 76 yX6_ticks ∈ mhT := mhT3 (List.mem_of_getElem? (i := 34) rfl) rfl
theorem wd_580 : Cond.instanceMethod yX6_ticks ∈ mhT := mhT3 (List.mem_of_getElem? (i := 35) rfl) rfl
theorem wd_581 : Cond.selects "MirrorHouse" yX6_ticks yX6_ticks ∈ mhT := mhT3 (List.mem_of_getElem? (i := 36) rfl) rfl
theorem wd_582 : Cond.code yX6_ticks prog_1_method_33_code 6 (some .int) ∈ mhT := mhT3 (List.mem_of_getElem? (i := 37) rfl) rfl
theorem wd_583 : Cond.methodLink "MirrorHouse" 251 yX6_insideOf ∈ mhT := mhT3 (List.mem_of_getElem? (i := 38) rfl) rfl
theorem wd_585 : Cond.instanceMethod yX6_insideOf ∈ mhT := mhT3 (List.mem_of_getElem? (i := 40) rfl) rfl
theorem wd_586 : Cond.code yX6_insideOf prog_1_method_35_code 5 (some .int) ∈ mhT := mhT3 (List.mem_of_getElem? (i := 41) rfl) rfl
theorem wd_587 : Cond.methodLink "MirrorHouse" 259 yX5_isOut ∈ mhT := mhT3 (List.mem_of_getElem? (i := 42) rfl) rfl
theorem wd_588 : Cond.instanceMethod yX5_isOut ∈ mhT := mhT3 (List.mem_of_getElem? (i := 43) rfl) rfl
theorem wd_589 : Cond.selects "MirrorHouse$Walker" yX5_isOut yX5_isOut ∈ mhT := mhT3 (List.mem_of_getElem? (i := 44) rfl) rfl
theorem wd_590 : Cond.code yX5_isOut prog_7_method_2_code 1 (some .boolean) ∈ mhT := mhT3 (List.mem_of_getElem? (i := 45) rfl) rfl
theorem wd_591 : Cond.methodLink "MirrorHouse" 254 yX6_tickAll ∈ mhT := mhT3 (List.mem_of_getElem? (i := 46) rfl) rfl
theorem wd_593 : Cond.instanceMethod yX6_tickAll ∈ mhT := mhT3 (List.mem_of_getElem? (i := 48) rfl) rfl
theorem wd_594 : Cond.code yX6_tickAll prog_1_method_34_code 5 none ∈ mhT := mhT3 (List.mem_of_getElem? (i := 49) rfl) rfl
theorem wd_595 : Cond.methodLink "MirrorHouse" 263 yX5_goOn ∈ mhT := mhT3 (List.mem_of_getElem? (i := 50) rfl) rfl
theorem wd_596 : Cond.instanceMethod yX5_goOn ∈ mhT := mhT3 (List.mem_of_getElem? (i := 51) rfl) rfl
theorem wd_597 : Cond.selects "MirrorHouse$Walker" yX5_goOn yX5_goOn ∈ mhT := mhT3 (List.mem_of_getElem? (i := 52) rfl) rfl
theorem wd_598 : Cond.code yX5_goOn prog_7_method_3_code 4 none ∈ mhT := mhT3 (List.mem_of_getElem? (i := 53) rfl) rfl
theorem wd_599 : Cond.methodLink "MirrorHouse$Walker" 36 yX1_firstOpen ∈ mhT := mhT3 (List.mem_of_getElem? (i := 54) rfl) rfl
theorem wd_600 : Cond.instanceMethod yX1_firstOpen ∈ mhT := mhT3 (List.mem_of_getElem? (i := 55) rfl) rfl
theorem wd_601 : Cond.selects "MirrorHouse$House" yX1_firstOpen yX1_firstOpen ∈ mhT := mhT3 (List.mem_of_getElem? (i := 56) rfl) rfl
theorem wd_602 : Cond.code yX1_firstOpen prog_3_method_26_code 6 (some .int) ∈ mhT := mhT3 (List.mem_of_getElem? (i := 57) rfl) rfl
theorem wd_603 : Cond.methodLink "MirrorHouse$House" 149 yX1_handWay ∈ mhT := mhT3 (List.mem_of_getElem? (i := 58) rfl) rfl
theorem wd_604 : Cond.static yX1_handWay ∈ mhT := mhT3 (List.mem_of_getElem? (i := 59) rfl) rfl
theorem wd_605 : Cond.code yX1_handWay prog_3_method_27_code 3 (some .int) ∈ mhT := mhT3 (List.mem_of_getElem? (i := 60) rfl) rfl
theorem wd_606 : Cond.methodLink "MirrorHouse$Walker" 40 yX5_firstClear ∈ mhT := mhT3 (List.mem_of_getElem? (i := 61) rfl) rfl
theorem wd_608 : Cond.instanceMethod yX5_firstClear ∈ mhT := mhT3 (List.mem_of_getElem? (i := 63) rfl) rfl
theorem wd_609 : Cond.code yX5_firstClear prog_7_method_4_code 8 (some .int) ∈ mhT := mhT3 (List.mem_of_getElem? (i := 64) rfl) rfl
theorem wd_610 : Cond.methodLink "MirrorHouse$Walker" 60 yX1_handWay ∈ mhT := mhT3 (List.mem_of_getElem? (i := 65) rfl) rfl
theorem wd_611 : Cond.methodLink "MirrorHouse$Walker" 44 yX1_sideOf ∈ mhT := mhT3 (List.mem_of_getElem? (i := 66) rfl) rfl
theorem wd_612 : Cond.methodLink "MirrorHouse$Walker" 64 yX5_seemsOpen ∈ mhT := mhT3 (List.mem_of_getElem? (i := 67) rfl) rfl
theorem wd_613 : Cond.static yX5_seemsOpen ∈ mhT := mhT3 (List.mem_of_getElem? (i := 68) rfl) rfl
theorem wd_614 : Cond.code yX5_seemsOpen prog_7_method_5_code 2 (some .boolean) ∈ mhT := mhT3 (List.mem_of_getElem? (i := 69) rfl) rfl
theorem wd_615 : Cond.methodLink "MirrorHouse$Walker" 57 yX1_behind ∈ mhT := mhT3 (List.mem_of_getElem? (i := 70) rfl) rfl
theorem wd_616 : Cond.methodLink "MirrorHouseLaw" 80 yX6_ofWalker ∈ mhT := mhT3 (List.mem_of_getElem? (i := 71) rfl) rfl
theorem wd_617 : Cond.instanceMethod yX6_ofWalker ∈ mhT := mhT3 (List.mem_of_getElem? (i := 72) rfl) rfl
theorem wd_618 : Cond.selects "MirrorHouse" yX6_ofWalker yX6_ofWalker ∈ mhT := mhT3 (List.mem_of_getElem? (i := 73) rfl) rfl
theorem wd_619 : Cond.code yX6_ofWalker prog_1_method_36_code 4 (some .int) ∈ mhT := mhT3 (List.mem_of_getElem? (i := 74) rfl) rfl
theorem wd_620 : Cond.methodLink "MirrorHouse" 267 yX6_walkerAt ∈ mhT := mhT3 (List.mem_of_getElem? (i := 75) rfl) rfl
theorem wd_622 : Cond.instanceMethod yX6_walkerAt ∈ mhT := mhT3 (List.mem_of_getElem? (i := 77) rfl) rfl
theorem wd_623 : Cond.code yX6_walkerAt prog_1_method_3_code 2 (some (.object "MirrorHouse$Walker")) ∈ mhT := mhT3 (List.mem_of_getElem? (i := 78) rfl) rfl
theorem wd_624 : Cond.methodLink "MirrorHouseLaw" 84 yX6_shut ∈ mhT := mhT3 (List.mem_of_getElem? (i := 79) rfl) rfl
theorem wd_625 : Cond.instanceMethod yX6_shut ∈ mhT := mhT3 (List.mem_of_getElem? (i := 80) rfl) rfl
theorem wd_626 : Cond.selects "MirrorHouse" yX6_shut yX6_shut ∈ mhT := mhT3 (List.mem_of_getElem? (i := 81) rfl) rfl
theorem wd_627 : Cond.code yX6_shut prog_1_method_37_code 3 (some .int) ∈ mhT := mhT3 (List.mem_of_getElem? (i := 82) rfl) rfl
theorem wd_628 : Cond.methodLink "MirrorHouse" 287 yX1_firstShut ∈ mhT := mhT3 (List.mem_of_getElem? (i := 83) rfl) rfl
theorem wd_629 : Cond.instanceMethod yX1_firstShut ∈ mhT := mhT3 (List.mem_of_getElem? (i := 84) rfl) rfl
theorem wd_630 : Cond.selects "MirrorHouse$House" yX1_firstShut yX1_firstShut ∈ mhT := mhT3 (List.mem_of_getElem? (i := 85) rfl) rfl
theorem wd_631 : Cond.code yX1_firstShut prog_3_method_19_code 3 (some .int) ∈ mhT := mhT3 (List.mem_of_getElem? (i := 86) rfl) rfl
theorem wd_632 : Cond.methodLink "MirrorHouse$House" 106 yX1_openBy ∈ mhT := mhT3 (List.mem_of_getElem? (i := 87) rfl) rfl
theorem wd_634 : Cond.instanceMethod yX1_openBy ∈ mhT := mhT3 (List.mem_of_getElem? (i := 89) rfl) rfl
theorem wd_635 : Cond.code yX1_openBy prog_3_method_13_code 3 none ∈ mhT := mhT3 (List.mem_of_getElem? (i := 90) rfl) rfl
theorem wd_636 : Cond.methodLink "MirrorHouse$House" 89 yJ7_fill_53178 ∈ mhT := mhT3 (List.mem_of_getElem? (i := 91) rfl) rfl
theorem wd_637 : Cond.static yJ7_fill_53178 ∈ mhT := mhT3 (List.mem_of_getElem? (i := 92) rfl) rfl
theorem wd_638 : Cond.code yJ7_fill_53178 prog_12_method_103_code 4 none ∈ mhT := mhT3 (List.mem_of_getElem? (i := 93) rfl) rfl
theorem wd_639 : Cond.methodLink "MirrorHouse$House" 95 yX1_openAlso ∈ mhT := mhT3 (List.mem_of_getElem? (i := 94) rfl) rfl
theorem wd_641 : Cond.instanceMethod yX1_openAlso ∈ mhT := mhT3 (List.mem_of_getElem? (i := 96) rfl) rfl
theorem wd_642 : Cond.code yX1_openAlso prog_3_method_14_code 2 none ∈ mhT := mhT3 (List.mem_of_getElem? (i := 97) rfl) rfl
theorem wd_643 : Cond.methodLink "MirrorHouse$House" 110 yX1_roomsWithin ∈ mhT := mhT3 (List.mem_of_getElem? (i := 98) rfl) rfl
theorem wd_645 : Cond.instanceMethod yX1_roomsWithin ∈ mhT := mhT3 (List.mem_of_getElem? (i := 100) rfl) rfl
theorem wd_646 : Cond.code yX1_roomsWithin prog_3_method_17_code 5 (some .int) ∈ mhT := mhT3 (List.mem_of_getElem? (i := 101) rfl) rfl
theorem wd_647 : Cond.methodLink "MirrorHouse$House" 102 yX1_widened ∈ mhT := mhT3 (List.mem_of_getElem? (i := 102) rfl) rfl
theorem wd_649 : Cond.instanceMethod yX1_widened ∈ mhT := mhT3 (List.mem_of_getElem? (i := 104) rfl) rfl
theorem wd_650 : Cond.code yX1_widened prog_3_method_15_code 6 (some .int) ∈ mhT := mhT3 (List.mem_of_getElem? (i := 105) rfl) rfl
theorem wd_651 : Cond.methodLink "MirrorHouse$House" 99 yX1_moved ∈ mhT := mhT3 (List.mem_of_getElem? (i := 106) rfl) rfl
theorem wd_652 : Cond.static yX1_moved ∈ mhT := mhT3 (List.mem_of_getElem? (i := 107) rfl) rfl
theorem wd_653 : Cond.code yX1_moved prog_3_method_16_code 2 (some .int) ∈ mhT := mhT3 (List.mem_of_getElem? (i := 108) rfl) rfl
theorem wd_654 : Cond.methodLink "MirrorHouseLaw" 88 yX6_far ∈ mhT := mhT3 (List.mem_of_getElem? (i := 109) rfl) rfl
theorem wd_655 : Cond.instanceMethod yX6_far ∈ mhT := mhT3 (List.mem_of_getElem? (i := 110) rfl) rfl
theorem wd_656 : Cond.selects "MirrorHouse" yX6_far yX6_far ∈ mhT := mhT3 (List.mem_of_getElem? (i := 111) rfl) rfl
theorem wd_657 : Cond.code yX6_far prog_1_method_38_code 4 (some .int) ∈ mhT := mhT3 (List.mem_of_getElem? (i := 112) rfl) rfl
theorem wd_658 : Cond.methodLink "MirrorHouse" 290 yX1_howFar ∈ mhT := mhT3 (List.mem_of_getElem? (i := 113) rfl) rfl
theorem wd_659 : Cond.instanceMethod yX1_howFar ∈ mhT := mhT3 (List.mem_of_getElem? (i := 114) rfl) rfl
theorem wd_660 : Cond.selects "MirrorHouse$House" yX1_howFar yX1_howFar ∈ mhT := mhT3 (List.mem_of_getElem? (i := 115) rfl) rfl
theorem wd_661 : Cond.code yX1_howFar prog_3_method_18_code 3 (some .int) ∈ mhT := mhT3 (List.mem_of_getElem? (i := 116) rfl) rfl
theorem wd_662 : Cond.methodLink "MirrorHouseLaw" 92 yX6_opened ∈ mhT := mhT3 (List.mem_of_getElem? (i := 117) rfl) rfl
theorem wd_663 : Cond.instanceMethod yX6_opened ∈ mhT := mhT3 (List.mem_of_getElem? (i := 118) rfl) rfl
theorem wd_664 : Cond.selects "MirrorHouse" yX6_opened yX6_opened ∈ mhT := mhT3 (List.mem_of_getElem? (i := 119) rfl) rfl
theorem wd_665 : Cond.code yX6_opened prog_1_method_39_code 6 (some .int) ∈ mhT := mhT3 (List.mem_of_getElem? (i := 120) rfl) rfl
theorem wd_666 : Cond.methodLink "MirrorHouse" 293 yX1_fewestToOpen ∈ mhT := mhT3 (List.mem_of_getElem? (i := 121) rfl) rfl
theorem wd_667 : Cond.instanceMethod yX1_fewestToOpen ∈ mhT := mhT3 (List.mem_of_getElem? (i := 122) rfl) rfl
theorem wd_668 : Cond.selects "MirrorHouse$House" yX1_fewestToOpen yX1_fewestToOpen ∈ mhT := mhT3 (List.mem_of_getElem? (i := 123) rfl) rfl
theorem wd_669 : Cond.code yX1_fewestToOpen prog_3_method_21_code 3 (some .int) ∈ mhT := mhT3 (List.mem_of_getElem? (i := 124) rfl) rfl
theorem wd_670 : Cond.methodLink "MirrorHouse$House" 117 arraycopyName ∈ mhT := mhT3 (List.mem_of_getElem? (i := 125) rfl) rfl
theorem wd_671 : Cond.methodLink "MirrorHouse$House" 113 yX1_allRooms ∈ mhT := mhT3 (List.mem_of_getElem? (i := 126) rfl) rfl
theorem wd_672 : Cond.methodLink "MirrorHouse$House" 123 yX1_isNearWith ∈ mhT := mhT3 (List.mem_of_getElem? (i := 127) rfl) rfl
theorem wd_674 : Cond.instanceMethod yX1_isNearWith ∈ mhT := mhT3 (List.mem_of_getElem? (i := 129) rfl) rfl
theorem wd_675 : Cond.code yX1_isNearWith prog_3_method_23_code 4 (some .boolean) ∈ mhT := mhT3 (List.mem_of_getElem? (i := 130) rfl) rfl
theorem wd_676 : Cond.methodLink "MirrorHouse$House" 126 yX1_findTwo ∈ mhT := mhT3 (List.mem_of_getElem? (i := 131) rfl) rfl
theorem wd_678 : Cond.instanceMethod yX1_findTwo ∈ mhT := mhT3 (List.mem_of_getElem? (i := 133) rfl) rfl
theorem wd_679 : Cond.code yX1_findTwo prog_3_method_22_code 4 (some .boolean) ∈ mhT := mhT3 (List.mem_of_getElem? (i := 134) rfl) rfl
theorem wd_680 : Cond.methodLink "MirrorHouseLaw" 96 yX6_keeps ∈ mhT := mhT3 (List.mem_of_getElem? (i := 135) rfl) rfl
theorem wd_681 : Cond.instanceMethod yX6_keeps ∈ mhT := mhT3 (List.mem_of_getElem? (i := 136) rfl) rfl
theorem wd_682 : Cond.selects "MirrorHouse" yX6_keeps yX6_keeps ∈ mhT := mhT3 (List.mem_of_getElem? (i := 137) rfl) rfl
theorem wd_683 : Cond.code yX6_keeps prog_1_method_40_code 12 (some .int) ∈ mhT := mhT3 (List.mem_of_getElem? (i := 138) rfl) rfl
theorem wd_684 : Cond.methodLink "MirrorHouse" 302 yX6_areSides ∈ mhT := mhT3 (List.mem_of_getElem? (i := 139) rfl) rfl
theorem wd_685 : Cond.static yX6_areSides ∈ mhT := mhT3 (List.mem_of_getElem? (i := 140) rfl) rfl
theorem wd_686 : Cond.code yX6_areSides prog_1_method_41_code 5 (some .boolean) ∈ mhT := mhT3 (List.mem_of_getElem? (i := 141) rfl) rfl
theorem wd_687 : Cond.methodLink "MirrorHouse" 306 yX6_hasLike ∈ mhT := mhT3 (List.mem_of_getElem? (i := 142) rfl) rfl
theorem wd_688 : Cond.static yX6_hasLike ∈ mhT := mhT3 (List.mem_of_getElem? (i := 143) rfl) rfl
theorem wd_689 : Cond.code yX6_hasLike prog_1_method_42_code 5 (some .boolean) ∈ mhT := mhT3 (List.mem_of_getElem? (i := 144) rfl) rfl
theorem wd_690 : Cond.methodLink "MirrorHouse" 309 yX1_keepLongest ∈ mhT := mhT3 (List.mem_of_getElem? (i := 145) rfl) rfl
theorem wd_691 : Cond.instanceMethod yX1_keepLongest ∈ mhT := mhT3 (List.mem_of_getElem? (i := 146) rfl) rfl
theorem wd_692 : Cond.selects "MirrorHouse$House" yX1_keepLongest yX1_keepLongest ∈ mhT := mhT3 (List.mem_of_getElem? (i := 147) rfl) rfl
theorem wd_693 : Cond.code yX1_keepLongest prog_3_method_24_code 8 none ∈ mhT := mhT3 (List.mem_of_getElem? (i := 148) rfl) rfl
theorem wd_694 : Cond.methodLink "MirrorHouse$House" 135 yX1_isTrialFair ∈ mhT := mhT3 (List.mem_of_getElem? (i := 149) rfl) rfl
theorem wd_696 : Cond.instanceMethod yX1_isTrialFair ∈ mhT := mhT3 (List.mem_of_getElem? (i := 151) rfl) rfl
theorem wd_697 : Cond.code yX1_isTrialFair prog_3_method_20_code 1 (some .boolean) ∈ mhT := mhT3 (List.mem_of_getElem? (i := 152) rfl) rfl
theorem wd_698 : Cond.methodLink "MirrorHouse$House" 139 yX1_ticksOfBlind ∈ mhT := mhT3 (List.mem_of_getElem? (i := 153) rfl) rfl
theorem wd_700 : Cond.instanceMethod yX1_ticksOfBlind ∈ mhT := mhT3 (List.mem_of_getElem? (i := 155) rfl) rfl
theorem wd_701 : Cond.code yX1_ticksOfBlind prog_3_method_25_code 6 (some .int) ∈ mhT := mhT3 (List.mem_of_getElem? (i := 156) rfl) rfl
theorem wd_702 : Cond.methodLink "MirrorHouse$House" 142 yX1_firstOpen ∈ mhT := mhT3 (List.mem_of_getElem? (i := 157) rfl) rfl
theorem wd_703 : Cond.methodLink "MirrorHouse$House" 146 yX1_behind ∈ mhT := mhT3 (List.mem_of_getElem? (i := 158) rfl) rfl
theorem wd_704 : Cond.methodLink "MirrorHouseLaw" 101 yX6_changed ∈ mhT := mhT3 (List.mem_of_getElem? (i := 159) rfl) rfl
theorem wd_705 : Cond.instanceMethod yX6_changed ∈ mhT := mhT3 (List.mem_of_getElem? (i := 160) rfl) rfl
theorem wd_706 : Cond.selects "MirrorHouse" yX6_changed yX6_changed ∈ mhT := mhT3 (List.mem_of_getElem? (i := 161) rfl) rfl
theorem wd_707 : Cond.code yX6_changed prog_1_method_43_code 5 (some .long) ∈ mhT := mhT3 (List.mem_of_getElem? (i := 162) rfl) rfl
theorem wd_708 : Cond.constantLong "MirrorHouse" 68 (-9223372036854775808) ∈ mhT := mhT3 (List.mem_of_getElem? (i := 163) rfl) rfl
theorem wd_709 : Cond.methodLink "MirrorHouse" 319 yX0_compare ∈ mhT := mhT3 (List.mem_of_getElem? (i := 164) rfl) rfl
theorem wd_710 : Cond.instanceMethod yX0_compare ∈ mhT := mhT3 (List.mem_of_getElem? (i := 165) rfl) rfl
theorem wd_711 : Cond.selects "MirrorHouse$Change" yX0_compare yX0_compare ∈ mhT := mhT3 (List.mem_of_getElem? (i := 166) rfl) rfl
theorem wd_712 : Cond.code yX0_compare prog_2_method_2_code 4 (some .boolean) ∈ mhT := mhT3 (List.mem_of_getElem? (i := 167) rfl) rfl
theorem wd_713 : Cond.methodLink "MirrorHouse" 323 yX0_countRows ∈ mhT := mhT3 (List.mem_of_getElem? (i := 168) rfl) rfl
theorem wd_714 : Cond.instanceMethod yX0_countRows ∈ mhT := mhT3 (List.mem_of_getElem? (i := 169) rfl) rfl
theorem wd_715 : Cond.selects "MirrorHouse$Change" yX0_countRows yX0_countRows ∈ mhT := mhT3 (List.mem_of_getElem? (i := 170) rfl) rfl
theorem wd_716 : Cond.code yX0_countRows prog_2_method_3_code 6 (some .int) ∈ mhT := mhT3 (List.mem_of_getElem? (i := 171) rfl) rfl
theorem wd_717 : Cond.methodLink "MirrorHouse$Change" 36 yX0_rowsBehind ∈ mhT := mhT3 (List.mem_of_getElem? (i := 172) rfl) rfl
theorem wd_719 : Cond.instanceMethod yX0_rowsBehind ∈ mhT := mhT3 (List.mem_of_getElem? (i := 174) rfl) rfl
theorem wd_720 : Cond.code yX0_rowsBehind prog_2_method_4_code 4 (some .int) ∈ mhT := mhT3 (List.mem_of_getElem? (i := 175) rfl) rfl
theorem wd_721 : Cond.methodLink "MirrorHouse$Change" 40 yX1_isFairWith ∈ mhT := mhT3 (List.mem_of_getElem? (i := 176) rfl) rfl
theorem wd_722 : Cond.instanceMethod yX1_isFairWith ∈ mhT := mhT3 (List.mem_of_getElem? (i := 177) rfl) rfl
theorem wd_723 : Cond.selects "MirrorHouse$House" yX1_isFairWith yX1_isFairWith ∈ mhT := mhT3 (List.mem_of_getElem? (i := 178) rfl) rfl
theorem wd_724 : Cond.code yX1_isFairWith prog_3_method_28_code 6 (some .boolean) ∈ mhT := mhT3 (List.mem_of_getElem? (i := 179) rfl) rfl
theorem wd_725 : Cond.methodLink "MirrorHouseLaw" 106 yX6_change ∈ mhT := mhT3 (List.mem_of_getElem? (i := 180) rfl) rfl
theorem wd_726 : Cond.instanceMethod yX6_change ∈ mhT := mhT3 (List.mem_of_getElem? (i := 181) rfl) rfl
theorem wd_727 : Cond.selects "MirrorHouse" yX6_change yX6_change ∈ mhT := mhT3 (List.mem_of_getElem? (i := 182) rfl) rfl
theorem wd_728 : Cond.code yX6_change prog_1_method_44_code 6 (some .int) ∈ mhT := mhT3 (List.mem_of_getElem? (i := 183) rfl) rfl
theorem wd_729 : Cond.methodLink "MirrorHouse" 327 yX0_ofFirstRow ∈ mhT := mhT3 (List.mem_of_getElem? (i := 184) rfl) rfl
theorem wd_730 : Cond.instanceMethod yX0_ofFirstRow ∈ mhT := mhT3 (List.mem_of_getElem? (i := 185) rfl) rfl
theorem wd_731 : Cond.selects "MirrorHouse$Change" yX0_ofFirstRow yX0_ofFirstRow ∈ mhT := mhT3 (List.mem_of_getElem? (i := 186) rfl) rfl
theorem wd_732 : Cond.code yX0_ofFirstRow prog_2_method_5_code 6 (some .int) ∈ mhT := mhT3 (List.mem_of_getElem? (i := 187) rfl) rfl
theorem wd_733 : Cond.methodLink "MirrorHouse$Change" 44 yX0_firstThatGoesOn ∈ mhT := mhT3 (List.mem_of_getElem? (i := 188) rfl) rfl
theorem wd_735 : Cond.instanceMethod yX0_firstThatGoesOn ∈ mhT := mhT3 (List.mem_of_getElem? (i := 190) rfl) rfl
theorem wd_736 : Cond.code yX0_firstThatGoesOn prog_2_method_6_code 3 (some .int) ∈ mhT := mhT3 (List.mem_of_getElem? (i := 191) rfl) rfl
theorem wd_737 : Cond.methodLink "MirrorHouseLaw" 110 yX6_sheet ∈ mhT := mhT3 (List.mem_of_getElem? (i := 192) rfl) rfl
theorem wd_738 : Cond.instanceMethod yX6_sheet ∈ mhT := mhT3 (List.mem_of_getElem? (i := 193) rfl) rfl
theorem wd_739 : Cond.selects "MirrorHouse" yX6_sheet yX6_sheet ∈ mhT := mhT3 (List.mem_of_getElem? (i := 194) rfl) rfl
theorem wd_740 : Cond.code yX6_sheet prog_1_method_45_code 5 (some .int) ∈ mhT := mhT3 (List.mem_of_getElem? (i := 195) rfl) rfl
theorem wd_741 : Cond.methodLink "MirrorHouse" 330 yX3_renew ∈ mhT := mhT3 (List.mem_of_getElem? (i := 196) rfl) rfl
theorem wd_742 : Cond.instanceMethod yX3_renew ∈ mhT := mhT3 (List.mem_of_getElem? (i := 197) rfl) rfl
theorem wd_743 : Cond.selects "MirrorHouse$Sheet" yX3_renew yX3_renew ∈ mhT := mhT3 (List.mem_of_getElem? (i := 198) rfl) rfl
theorem wd_744 : Cond.code yX3_renew prog_5_method_2_code 3 none ∈ mhT := mhT3 (List.mem_of_getElem? (i := 199) rfl) rfl
theorem wd_745 : Cond.methodLink "MirrorHouse$Sheet" 22 yJ7_fill_53178 ∈ mhT := mhT3 (List.mem_of_getElem? (i := 200) rfl) rfl
theorem wd_746 : Cond.methodLink "MirrorHouseLaw" 114 yX6_lose ∈ mhT := mhT3 (List.mem_of_getElem? (i := 201) rfl) rfl
theorem wd_747 : Cond.instanceMethod yX6_lose ∈ mhT := mhT3 (List.mem_of_getElem? (i := 202) rfl) rfl
theorem wd_748 : Cond.selects "MirrorHouse" yX6_lose yX6_lose ∈ mhT := mhT3 (List.mem_of_getElem? (i := 203) rfl) rfl
theorem wd_749 : Cond.code yX6_lose prog_1_method_46_code 4 (some .int) ∈ mhT := mhT3 (List.mem_of_getElem? (i := 204) rfl) rfl
theorem wd_750 : Cond.methodLink "MirrorHouse" 333 yX3_isNothing ∈ mhT := mhT3 (List.mem_of_getElem? (i := 205) rfl) rfl
theorem wd_751 : Cond.methodLink "MirrorHouseLaw" 118 yX6_put ∈ mhT := mhT3 (List.mem_of_getElem? (i := 206) rfl) rfl
theorem wd_752 : Cond.instanceMethod yX6_put ∈ mhT := mhT3 (List.mem_of_getElem? (i := 207) rfl) rfl
theorem wd_753 : Cond.selects "MirrorHouse" yX6_put yX6_put ∈ mhT := mhT3 (List.mem_of_getElem? (i := 208) rfl) rfl
theorem wd_754 : Cond.code yX6_put prog_1_method_47_code 5 (some .int) ∈ mhT := mhT3 (List.mem_of_getElem? (i := 209) rfl) rfl
theorem wd_755 : Cond.methodLink "MirrorHouse" 339 yX3_cut ∈ mhT := mhT3 (List.mem_of_getElem? (i := 210) rfl) rfl
theorem wd_756 : Cond.instanceMethod yX3_cut ∈ mhT := mhT3 (List.mem_of_getElem? (i := 211) rfl) rfl
theorem wd_757 : Cond.selects "MirrorHouse$Sheet" yX3_cut yX3_cut ∈ mhT := mhT3 (List.mem_of_getElem? (i := 212) rfl) rfl
theorem wd_758 : Cond.code yX3_cut prog_5_method_6_code 2 (some .int) ∈ mhT := mhT3 (List.mem_of_getElem? (i := 213) rfl) rfl
theorem wd_759 : Cond.methodLink "MirrorHouseLaw" 122 yX6_cell ∈ mhT := mhT3 (List.mem_of_getElem? (i := 214) rfl) rfl
theorem wd_760 : Cond.instanceMethod yX6_cell ∈ mhT := mhT3 (List.mem_of_getElem? (i := 215) rfl) rfl
theorem wd_761 : Cond.selects "MirrorHouse" yX6_cell yX6_cell ∈ mhT := mhT3 (List.mem_of_getElem? (i := 216) rfl) rfl
theorem wd_762 : Cond.code yX6_cell prog_1_method_48_code 5 (some .long) ∈ mhT := mhT3 (List.mem_of_getElem? (i := 217) rfl) rfl
theorem wd_763 : Cond.methodLink "MirrorHouse" 342 yX3_canBe ∈ mhT := mhT3 (List.mem_of_getElem? (i := 218) rfl) rfl
theorem wd_764 : Cond.methodLink "MirrorHouse" 345 yX6_lostBy ∈ mhT := mhT3 (List.mem_of_getElem? (i := 219) rfl) rfl
theorem wd_766 : Cond.instanceMethod yX6_lostBy ∈ mhT := mhT3 (List.mem_of_getElem? (i := 221) rfl) rfl
theorem wd_767 : Cond.code yX6_lostBy prog_1_method_10_code 2 (some .long) ∈ mhT := mhT3 (List.mem_of_getElem? (i := 222) rfl) rfl
theorem wd_768 : Cond.methodLink "MirrorHouseLaw" 127 yX6_copy ∈ mhT := mhT3 (List.mem_of_getElem? (i := 223) rfl) rfl
theorem wd_769 : Cond.instanceMethod yX6_copy ∈ mhT := mhT3 (List.mem_of_getElem? (i := 224) rfl) rfl
theorem wd_770 : Cond.selects "MirrorHouse" yX6_copy yX6_copy ∈ mhT := mhT3 (List.mem_of_getElem? (i := 225) rfl) rfl
theorem wd_771 : Cond.code yX6_copy prog_1_method_49_code 8 (some .int) ∈ mhT := mhT3 (List.mem_of_getElem? (i := 226) rfl) rfl
theorem wd_772 : Cond.methodLink "MirrorHouse" 352 yX3_hasCells ∈ mhT := mhT3 (List.mem_of_getElem? (i := 227) rfl) rfl
theorem wd_773 : Cond.methodLink "MirrorHouseLaw" 131 yX6_tell ∈ mhT := mhT3 (List.mem_of_getElem? (i := 228) rfl) rfl
theorem wd_774 : Cond.instanceMethod yX6_tell ∈ mhT := mhT3 (List.mem_of_getElem? (i := 229) rfl) rfl
theorem wd_775 : Cond.selects "MirrorHouse" yX6_tell yX6_tell ∈ mhT := mhT3 (List.mem_of_getElem? (i := 230) rfl) rfl
theorem wd_776 : Cond.code yX6_tell prog_1_method_50_code 3 (some .int) ∈ mhT := mhT3 (List.mem_of_getElem? (i := 231) rfl) rfl
theorem wd_777 : Cond.methodLink "MirrorHouse" 355 yX6_waryTells ∈ mhT := mhT3 (List.mem_of_getElem? (i := 232) rfl) rfl
theorem wd_779 : Cond.instanceMethod yX6_waryTells ∈ mhT := mhT3 (List.mem_of_getElem? (i := 234) rfl) rfl
theorem wd_780 : Cond.code yX6_waryTells prog_1_method_53_code 2 (some .int) ∈ mhT := mhT3 (List.mem_of_getElem? (i := 235) rfl) rfl
theorem wd_781 : Cond.methodLink "MirrorHouse" 365 yX6_leave ∈ mhT := mhT3 (List.mem_of_getElem? (i := 236) rfl) rfl
theorem wd_783 : Cond.instanceMethod yX6_leave ∈ mhT := mhT3 (List.mem_of_getElem? (i := 238) rfl) rfl
theorem wd_784 : Cond.code yX6_leave prog_1_method_54_code 2 none ∈ mhT := mhT3 (List.mem_of_getElem? (i := 239) rfl) rfl
theorem wd_785 : Cond.methodLink "MirrorHouse" 359 yX6_seerTells ∈ mhT := mhT4 (List.mem_of_getElem? (i := 0) rfl) rfl
theorem wd_787 : Cond.instanceMethod yX6_seerTells ∈ mhT := mhT4 (List.mem_of_getElem? (i := 2) rfl) rfl
theorem wd_788 : Cond.code yX6_seerTells prog_1_method_52_code 2 (some .int) ∈ mhT := mhT4 (List.mem_of_getElem? (i := 3) rfl) rfl
theorem wd_789 : Cond.methodLink "MirrorHouse" 362 yX6_blindTells ∈ mhT := mhT4 (List.mem_of_getElem? (i := 4) rfl) rfl
theorem wd_791 : Cond.instanceMethod yX6_blindTells ∈ mhT := mhT4 (List.mem_of_getElem? (i := 6) rfl) rfl
theorem wd_792 : Cond.code yX6_blindTells prog_1_method_51_code 2 (some .int) ∈ mhT := mhT4 (List.mem_of_getElem? (i := 7) rfl) rfl
theorem wd_793 : Cond.methodLink "MirrorHouseLaw" 135 yX6_greet ∈ mhT := mhT4 (List.mem_of_getElem? (i := 8) rfl) rfl
theorem wd_794 : Cond.instanceMethod yX6_greet ∈ mhT := mhT4 (List.mem_of_getElem? (i := 9) rfl) rfl
theorem wd_795 : Cond.selects "MirrorHouse" yX6_greet yX6_greet ∈ mhT := mhT4 (List.mem_of_getElem? (i := 10) rfl) rfl
theorem wd_796 : Cond.code yX6_greet prog_1_method_55_code 3 (some .int) ∈ mhT := mhT4 (List.mem_of_getElem? (i := 11) rfl) rfl
theorem wd_797 : Cond.methodLink "MirrorHouseLaw" 139 yX6_as ∈ mhT := mhT4 (List.mem_of_getElem? (i := 12) rfl) rfl
theorem wd_798 : Cond.instanceMethod yX6_as ∈ mhT := mhT4 (List.mem_of_getElem? (i := 13) rfl) rfl
theorem wd_799 : Cond.selects "MirrorHouse" yX6_as yX6_as ∈ mhT := mhT4 (List.mem_of_getElem? (i := 14) rfl) rfl
theorem wd_800 : Cond.code yX6_as prog_1_method_56_code 4 (some .int) ∈ mhT := mhT4 (List.mem_of_getElem? (i := 15) rfl) rfl
theorem wd_801 : Cond.methodLink "MirrorHouseLaw" 143 yX6_trace ∈ mhT := mhT4 (List.mem_of_getElem? (i := 16) rfl) rfl
theorem wd_802 : Cond.instanceMethod yX6_trace ∈ mhT := mhT4 (List.mem_of_getElem? (i := 17) rfl) rfl
theorem wd_803 : Cond.selects "MirrorHouse" yX6_trace yX6_trace ∈ mhT := mhT4 (List.mem_of_getElem? (i := 18) rfl) rfl
theorem wd_804 : Cond.code yX6_trace prog_1_method_57_code 1 (some .int) ∈ mhT := mhT4 (List.mem_of_getElem? (i := 19) rfl) rfl
theorem wd_805 : Cond.methodLink "MirrorHouseLaw" 148 yX6_fault ∈ mhT := mhT4 (List.mem_of_getElem? (i := 20) rfl) rfl
theorem wd_806 : Cond.instanceMethod yX6_fault ∈ mhT := mhT4 (List.mem_of_getElem? (i := 21) rfl) rfl
theorem wd_807 : Cond.selects "MirrorHouse" yX6_fault yX6_fault ∈ mhT := mhT4 (List.mem_of_getElem? (i := 22) rfl) rfl
theorem wd_808 : Cond.code yX6_fault prog_1_method_58_code 1 (some .int) ∈ mhT := mhT4 (List.mem_of_getElem? (i := 23) rfl) rfl
theorem wd_809 : Cond.methodLink "MirrorHouseLaw" 152 yX6_many ∈ mhT := mhT4 (List.mem_of_getElem? (i := 24) rfl) rfl
theorem wd_810 : Cond.instanceMethod yX6_many ∈ mhT := mhT4 (List.mem_of_getElem? (i := 25) rfl) rfl
theorem wd_811 : Cond.selects "MirrorHouse" yX6_many yX6_many ∈ mhT := mhT4 (List.mem_of_getElem? (i := 26) rfl) rfl
theorem wd_812 : Cond.code yX6_many prog_1_method_59_code 2 (some .int) ∈ mhT := mhT4 (List.mem_of_getElem? (i := 27) rfl) rfl
theorem wd_813 : Cond.methodLink "MirrorHouse" 372 yX6_outs ∈ mhT := mhT4 (List.mem_of_getElem? (i := 28) rfl) rfl
theorem wd_815 : Cond.instanceMethod yX6_outs ∈ mhT := mhT4 (List.mem_of_getElem? (i := 30) rfl) rfl
theorem wd_816 : Cond.code yX6_outs prog_1_method_60_code 4 (some .int) ∈ mhT := mhT4 (List.mem_of_getElem? (i := 31) rfl) rfl
theorem wd_817 : Cond.classLink "MirrorHouseLaw" 10 "MirrorHouseModel" ∈ mhT := mhT4 (List.mem_of_getElem? (i := 32) rfl) rfl
theorem wd_818 : Cond.instantiable "MirrorHouseModel" 46 ∈ mhT := mhT4 (List.mem_of_getElem? (i := 33) rfl) rfl
theorem wd_819 : Cond.methodLink "MirrorHouseLaw" 12 yX7_init ∈ mhT := mhT4 (List.mem_of_getElem? (i := 34) rfl) rfl
theorem wd_820 : Cond.instanceMethod yX7_init ∈ mhT := mhT4 (List.mem_of_getElem? (i := 35) rfl) rfl
theorem wd_821 : Cond.code yX7_init prog_9_method_1_code 1 none ∈ mhT := mhT4 (List.mem_of_getElem? (i := 36) rfl) rfl
theorem wd_822 : Cond.methodLink "MirrorHouseModel" 1 Lib.objectInit ∈ mhT := mhT4 (List.mem_of_getElem? (i := 37) rfl) rfl
theorem wd_823 : Cond.fieldLink "MirrorHouseModel" 102 "MirrorHouseModel" "fault" "I" ∈ mhT := mhT4 (List.mem_of_getElem? (i := 38) rfl) rfl
theorem wd_824 : Cond.fieldLink "MirrorHouseModel" 275 "MirrorHouseModel" "trace" "I" ∈ mhT := mhT4 (List.mem_of_getElem? (i := 39) rfl) rfl
theorem wd_825 : Cond.fieldLink "MirrorHouseModel" 9 "MirrorHouseModel" "sorts" "[I" ∈ mhT := mhT4 (List.mem_of_getElem? (i := 40) rfl) rfl
theorem wd_826 : Cond.fieldLink "MirrorHouseModel" 13 "MirrorHouseModel" "sheetLong" "[I" ∈ mhT := mhT4 (List.mem_of_getElem? (i := 41) rfl) rfl
theorem wd_827 : Cond.fieldLink "MirrorHouseModel" 16 "MirrorHouseModel" "cells" "[I" ∈ mhT := mhT4 (List.mem_of_getElem? (i := 42) rfl) rfl
theorem wd_828 : Cond.fieldLink "MirrorHouseModel" 112 "MirrorHouseModel" "houses" "I" ∈ mhT := mhT4 (List.mem_of_getElem? (i := 43) rfl) rfl
theorem wd_829 : Cond.fieldLink "MirrorHouseModel" 19 "MirrorHouseModel" "wide" "[I" ∈ mhT := mhT4 (List.mem_of_getElem? (i := 44) rfl) rfl
theorem wd_830 : Cond.fieldLink "MirrorHouseModel" 22 "MirrorHouseModel" "high" "[I" ∈ mhT := mhT4 (List.mem_of_getElem? (i := 45) rfl) rfl
theorem wd_831 : Cond.fieldLink "MirrorHouseModel" 25 "MirrorHouseModel" "kinds" "[I" ∈ mhT := mhT4 (List.mem_of_getElem? (i := 46) rfl) rfl
theorem wd_832 : Cond.fieldLink "MirrorHouseModel" 28 "MirrorHouseModel" "smears" "[I" ∈ mhT := mhT4 (List.mem_of_getElem? (i := 47) rfl) rfl
theorem wd_833 : Cond.fieldLink "MirrorHouseModel" 143 "MirrorHouseModel" "readWide" "I" ∈ mhT := mhT4 (List.mem_of_getElem? (i := 48) rfl) rfl
theorem wd_834 : Cond.fieldLink "MirrorHouseModel" 146 "MirrorHouseModel" "readHigh" "I" ∈ mhT := mhT4 (List.mem_of_getElem? (i := 49) rfl) rfl
theorem wd_835 : Cond.fieldLink "MirrorHouseModel" 31 "MirrorHouseModel" "till" "[I" ∈ mhT := mhT4 (List.mem_of_getElem? (i := 50) rfl) rfl
theorem wd_836 : Cond.fieldLink "MirrorHouseModel" 34 "MirrorHouseModel" "pace" "[I" ∈ mhT := mhT4 (List.mem_of_getElem? (i := 51) rfl) rfl
theorem wd_837 : Cond.fieldLink "MirrorHouseModel" 37 "MirrorHouseModel" "fold" "[I" ∈ mhT := mhT4 (List.mem_of_getElem? (i := 52) rfl) rfl
theorem wd_838 : Cond.fieldLink "MirrorHouseModel" 166 "MirrorHouseModel" "now" "I" ∈ mhT := mhT4 (List.mem_of_getElem? (i := 53) rfl) rfl
theorem wd_839 : Cond.fieldLink "MirrorHouseModel" 169 "MirrorHouseModel" "crossings" "I" ∈ mhT := mhT4 (List.mem_of_getElem? (i := 54) rfl) rfl
theorem wd_840 : Cond.fieldLink "MirrorHouseModel" 172 "MirrorHouseModel" "mirrors" "I" ∈ mhT := mhT4 (List.mem_of_getElem? (i := 55) rfl) rfl
theorem wd_841 : Cond.fieldLink "MirrorHouseModel" 175 "MirrorHouseModel" "lastSide" "I" ∈ mhT := mhT4 (List.mem_of_getElem? (i := 56) rfl) rfl
theorem wd_842 : Cond.fieldLink "MirrorHouseModel" 178 "MirrorHouseModel" "ending" "I" ∈ mhT := mhT4 (List.mem_of_getElem? (i := 57) rfl) rfl
theorem wd_843 : Cond.fieldLink "MirrorHouseModel" 213 "MirrorHouseModel" "reports" "I" ∈ mhT := mhT4 (List.mem_of_getElem? (i := 58) rfl) rfl
theorem wd_844 : Cond.fieldLink "MirrorHouseModel" 40 "MirrorHouseModel" "reportHouse" "[I" ∈ mhT := mhT4 (List.mem_of_getElem? (i := 59) rfl) rfl
theorem wd_845 : Cond.fieldLink "MirrorHouseModel" 43 "MirrorHouseModel" "reportRoom" "[I" ∈ mhT := mhT4 (List.mem_of_getElem? (i := 60) rfl) rfl
theorem wd_846 : Cond.fieldLink "MirrorHouseModel" 46 "MirrorHouseModel" "reportP" "[I" ∈ mhT := mhT4 (List.mem_of_getElem? (i := 61) rfl) rfl
theorem wd_847 : Cond.fieldLink "MirrorHouseModel" 49 "MirrorHouseModel" "reportQ" "[I" ∈ mhT := mhT4 (List.mem_of_getElem? (i := 62) rfl) rfl
theorem wd_848 : Cond.fieldLink "MirrorHouseModel" 52 "MirrorHouseModel" "reportSaw" "[Z" ∈ mhT := mhT4 (List.mem_of_getElem? (i := 63) rfl) rfl
theorem wd_849 : Cond.fieldLink "MirrorHouseModel" 216 "MirrorHouseModel" "pictures" "I" ∈ mhT := mhT4 (List.mem_of_getElem? (i := 64) rfl) rfl
theorem wd_850 : Cond.fieldLink "MirrorHouseModel" 56 "MirrorHouseModel" "picture" "[I" ∈ mhT := mhT4 (List.mem_of_getElem? (i := 65) rfl) rfl
theorem wd_851 : Cond.fieldLink "MirrorHouseModel" 219 "MirrorHouseModel" "walkers" "I" ∈ mhT := mhT4 (List.mem_of_getElem? (i := 66) rfl) rfl
theorem wd_852 : Cond.fieldLink "MirrorHouseModel" 59 "MirrorHouseModel" "walkKind" "[I" ∈ mhT := mhT4 (List.mem_of_getElem? (i := 67) rfl) rfl
theorem wd_853 : Cond.fieldLink "MirrorHouseModel" 62 "MirrorHouseModel" "walkHouse" "[I" ∈ mhT := mhT4 (List.mem_of_getElem? (i := 68) rfl) rfl
theorem wd_854 : Cond.fieldLink "MirrorHouseModel" 65 "MirrorHouseModel" "walkRoom" "[I" ∈ mhT := mhT4 (List.mem_of_getElem? (i := 69) rfl) rfl
theorem wd_855 : Cond.fieldLink "MirrorHouseModel" 68 "MirrorHouseModel" "walkWay" "[I" ∈ mhT := mhT4 (List.mem_of_getElem? (i := 70) rfl) rfl
theorem wd_856 : Cond.fieldLink "MirrorHouseModel" 71 "MirrorHouseModel" "walkWent" "[I" ∈ mhT := mhT4 (List.mem_of_getElem? (i := 71) rfl) rfl
theorem wd_857 : Cond.fieldLink "MirrorHouseModel" 74 "MirrorHouseModel" "walkRan" "[I" ∈ mhT := mhT4 (List.mem_of_getElem? (i := 72) rfl) rfl
theorem wd_858 : Cond.fieldLink "MirrorHouseModel" 77 "MirrorHouseModel" "walkTicks" "[I" ∈ mhT := mhT4 (List.mem_of_getElem? (i := 73) rfl) rfl
theorem wd_859 : Cond.fieldLink "MirrorHouseModel" 80 "MirrorHouseModel" "walkOut" "[I" ∈ mhT := mhT4 (List.mem_of_getElem? (i := 74) rfl) rfl
theorem wd_860 : Cond.fieldLink "MirrorHouseModel" 83 "MirrorHouseModel" "walkBy" "[I" ∈ mhT := mhT4 (List.mem_of_getElem? (i := 75) rfl) rfl
theorem wd_861 : Cond.fieldLink "MirrorHouseModel" 86 "MirrorHouseModel" "fars" "[I" ∈ mhT := mhT4 (List.mem_of_getElem? (i := 76) rfl) rfl
theorem wd_862 : Cond.fieldLink "MirrorHouseModel" 246 "MirrorHouseModel" "openA" "I" ∈ mhT := mhT4 (List.mem_of_getElem? (i := 77) rfl) rfl
theorem wd_863 : Cond.fieldLink "MirrorHouseModel" 249 "MirrorHouseModel" "openB" "I" ∈ mhT := mhT4 (List.mem_of_getElem? (i := 78) rfl) rfl
theorem wd_864 : Cond.fieldLink "MirrorHouseModel" 89 "MirrorHouseModel" "wasKinds" "[I" ∈ mhT := mhT4 (List.mem_of_getElem? (i := 79) rfl) rfl
theorem wd_865 : Cond.fieldLink "MirrorHouseModel" 261 "MirrorHouseModel" "unlike" "I" ∈ mhT := mhT4 (List.mem_of_getElem? (i := 80) rfl) rfl
theorem wd_866 : Cond.fieldLink "MirrorHouseModel" 92 "MirrorHouseModel" "unlikeSide" "[I" ∈ mhT := mhT4 (List.mem_of_getElem? (i := 81) rfl) rfl
theorem wd_867 : Cond.fieldLink "MirrorHouseModel" 95 "MirrorHouseModel" "keptKinds" "[I" ∈ mhT := mhT4 (List.mem_of_getElem? (i := 82) rfl) rfl
theorem wd_868 : Cond.fieldLink "MirrorHouseModel" 98 "MirrorHouseModel" "rowsLeft" "[J" ∈ mhT := mhT4 (List.mem_of_getElem? (i := 83) rfl) rfl
theorem wd_962 : Cond.arrayClass .boolean ∈ mhT := mhT4 (List.mem_of_getElem? (i := 177) rfl) rfl
theorem wd_963 : Cond.arrayClass .long ∈ mhT := mhT4 (List.mem_of_getElem? (i := 178) rfl) rfl
theorem wd_964 : Cond.methodLink "MirrorHouseLaw" 17 yX7_house ∈ mhT := mhT4 (List.mem_of_getElem? (i := 179) rfl) rfl
theorem wd_965 : Cond.instanceMethod yX7_house ∈ mhT := mhT4 (List.mem_of_getElem? (i := 180) rfl) rfl
theorem wd_966 : Cond.selects "MirrorHouseModel" yX7_house yX7_house ∈ mhT := mhT4 (List.mem_of_getElem? (i := 181) rfl) rfl
theorem wd_967 : Cond.code yX7_house prog_9_method_15_code 10 (some .int) ∈ mhT := mhT4 (List.mem_of_getElem? (i := 182) rfl) rfl
theorem wd_968 : Cond.methodLink "MirrorHouseModel" 126 yX7_isSheet ∈ mhT := mhT4 (List.mem_of_getElem? (i := 183) rfl) rfl
theorem wd_969 : Cond.static yX7_isSheet ∈ mhT := mhT4 (List.mem_of_getElem? (i := 184) rfl) rfl
theorem wd_970 : Cond.code yX7_isSheet prog_9_method_7_code 1 (some .boolean) ∈ mhT := mhT4 (List.mem_of_getElem? (i := 185) rfl) rfl
theorem wd_971 : Cond.methodLink "MirrorHouseModel" 108 yX7_within ∈ mhT := mhT4 (List.mem_of_getElem? (i := 186) rfl) rfl
theorem wd_972 : Cond.static yX7_within ∈ mhT := mhT4 (List.mem_of_getElem? (i := 187) rfl) rfl
theorem wd_973 : Cond.code yX7_within prog_9_method_5_code 3 (some .boolean) ∈ mhT := mhT4 (List.mem_of_getElem? (i := 188) rfl) rfl
theorem wd_974 : Cond.methodLink "MirrorHouseModel" 129 yX7_isSort ∈ mhT := mhT4 (List.mem_of_getElem? (i := 189) rfl) rfl
theorem wd_975 : Cond.static yX7_isSort ∈ mhT := mhT4 (List.mem_of_getElem? (i := 190) rfl) rfl
theorem wd_976 : Cond.code yX7_isSort prog_9_method_8_code 1 (some .boolean) ∈ mhT := mhT4 (List.mem_of_getElem? (i := 191) rfl) rfl
theorem wd_977 : Cond.methodLink "MirrorHouseModel" 132 yX7_against ∈ mhT := mhT4 (List.mem_of_getElem? (i := 192) rfl) rfl
theorem wd_979 : Cond.instanceMethod yX7_against ∈ mhT := mhT4 (List.mem_of_getElem? (i := 194) rfl) rfl
theorem wd_980 : Cond.code yX7_against prog_9_method_9_code 5 (some .int) ∈ mhT := mhT4 (List.mem_of_getElem? (i := 195) rfl) rfl
theorem wd_981 : Cond.methodLink "MirrorHouseModel" 136 yX7_fails ∈ mhT := mhT4 (List.mem_of_getElem? (i := 196) rfl) rfl
theorem wd_983 : Cond.instanceMethod yX7_fails ∈ mhT := mhT4 (List.mem_of_getElem? (i := 198) rfl) rfl
theorem wd_984 : Cond.code yX7_fails prog_9_method_3_code 2 (some .int) ∈ mhT := mhT4 (List.mem_of_getElem? (i := 199) rfl) rfl
theorem wd_985 : Cond.methodLink "MirrorHouseModel" 139 yX7_readHouse ∈ mhT := mhT4 (List.mem_of_getElem? (i := 200) rfl) rfl
theorem wd_987 : Cond.instanceMethod yX7_readHouse ∈ mhT := mhT4 (List.mem_of_getElem? (i := 202) rfl) rfl
theorem wd_988 : Cond.code yX7_readHouse prog_9_method_17_code 7 (some .int) ∈ mhT := mhT4 (List.mem_of_getElem? (i := 203) rfl) rfl
theorem wd_989 : Cond.methodLink "MirrorHouseModel" 149 yX7_digitAt ∈ mhT := mhT4 (List.mem_of_getElem? (i := 204) rfl) rfl
theorem wd_991 : Cond.instanceMethod yX7_digitAt ∈ mhT := mhT4 (List.mem_of_getElem? (i := 206) rfl) rfl
theorem wd_992 : Cond.code yX7_digitAt prog_9_method_16_code 3 (some .int) ∈ mhT := mhT4 (List.mem_of_getElem? (i := 207) rfl) rfl
theorem wd_993 : Cond.methodLink "MirrorHouseLaw" 22 yX7_ofHouse ∈ mhT := mhT4 (List.mem_of_getElem? (i := 208) rfl) rfl
theorem wd_994 : Cond.instanceMethod yX7_ofHouse ∈ mhT := mhT4 (List.mem_of_getElem? (i := 209) rfl) rfl
theorem wd_995 : Cond.selects "MirrorHouseModel" yX7_ofHouse yX7_ofHouse ∈ mhT := mhT4 (List.mem_of_getElem? (i := 210) rfl) rfl
theorem wd_996 : Cond.code yX7_ofHouse prog_9_method_19_code 5 (some .int) ∈ mhT := mhT4 (List.mem_of_getElem? (i := 211) rfl) rfl
theorem wd_997 : Cond.methodLink "MirrorHouseModel" 115 yX7_isHouse ∈ mhT := mhT4 (List.mem_of_getElem? (i := 212) rfl) rfl
theorem wd_999 : Cond.instanceMethod yX7_isHouse ∈ mhT := mhT4 (List.mem_of_getElem? (i := 214) rfl) rfl
theorem wd_1000 : Cond.code yX7_isHouse prog_9_method_10_code 2 (some .boolean) ∈ mhT := mhT4 (List.mem_of_getElem? (i := 215) rfl) rfl
theorem wd_1001 : Cond.methodLink "MirrorHouseModel" 119 yX7_rooms ∈ mhT := mhT4 (List.mem_of_getElem? (i := 216) rfl) rfl
theorem wd_1003 : Cond.instanceMethod yX7_rooms ∈ mhT := mhT4 (List.mem_of_getElem? (i := 218) rfl) rfl
theorem wd_1004 : Cond.code yX7_rooms prog_9_method_11_code 2 (some .int) ∈ mhT := mhT4 (List.mem_of_getElem? (i := 219) rfl) rfl
theorem wd_1005 : Cond.methodLink "MirrorHouseModel" 123 yX7_sides ∈ mhT := mhT4 (List.mem_of_getElem? (i := 220) rfl) rfl
theorem wd_1007 : Cond.instanceMethod yX7_sides ∈ mhT := mhT4 (List.mem_of_getElem? (i := 222) rfl) rfl
theorem wd_1008 : Cond.code yX7_sides prog_9_method_12_code 2 (some .int) ∈ mhT := mhT4 (List.mem_of_getElem? (i := 223) rfl) rfl
theorem wd_1009 : Cond.methodLink "MirrorHouseModel" 152 yX7_countOf ∈ mhT := mhT4 (List.mem_of_getElem? (i := 224) rfl) rfl
theorem wd_1011 : Cond.instanceMethod yX7_countOf ∈ mhT := mhT4 (List.mem_of_getElem? (i := 226) rfl) rfl
theorem wd_1012 : Cond.code yX7_countOf prog_9_method_18_code 5 (some .int) ∈ mhT := mhT4 (List.mem_of_getElem? (i := 227) rfl) rfl
theorem wd_1013 : Cond.methodLink "MirrorHouseLaw" 27 yX7_ofSide ∈ mhT := mhT4 (List.mem_of_getElem? (i := 228) rfl) rfl
theorem wd_1014 : Cond.instanceMethod yX7_ofSide ∈ mhT := mhT4 (List.mem_of_getElem? (i := 229) rfl) rfl
theorem wd_1015 : Cond.selects "MirrorHouseModel" yX7_ofSide yX7_ofSide ∈ mhT := mhT4 (List.mem_of_getElem? (i := 230) rfl) rfl
theorem wd_1016 : Cond.code yX7_ofSide prog_9_method_22_code 9 (some .int) ∈ mhT := mhT4 (List.mem_of_getElem? (i := 231) rfl) rfl
theorem wd_1017 : Cond.methodLink "MirrorHouseModel" 155 yX7_isSide ∈ mhT := mhT4 (List.mem_of_getElem? (i := 232) rfl) rfl
theorem wd_1019 : Cond.instanceMethod yX7_isSide ∈ mhT := mhT4 (List.mem_of_getElem? (i := 234) rfl) rfl
theorem wd_1020 : Cond.code yX7_isSide prog_9_method_14_code 3 (some .boolean) ∈ mhT := mhT4 (List.mem_of_getElem? (i := 235) rfl) rfl
theorem wd_1021 : Cond.methodLink "MirrorHouseModel" 159 yX7_sideOf ∈ mhT := mhT4 (List.mem_of_getElem? (i := 236) rfl) rfl
theorem wd_1023 : Cond.instanceMethod yX7_sideOf ∈ mhT := mhT4 (List.mem_of_getElem? (i := 238) rfl) rfl
theorem wd_1024 : Cond.code yX7_sideOf prog_9_method_20_code 8 (some .int) ∈ mhT := mhT4 (List.mem_of_getElem? (i := 239) rfl) rfl
theorem wd_1025 : Cond.methodLink "MirrorHouseLaw" 31 yX7_side ∈ mhT := mhT5 (List.mem_of_getElem? (i := 0) rfl) rfl
theorem wd_1026 : Cond.instanceMethod yX7_side ∈ mhT := mhT5 (List.mem_of_getElem? (i := 1) rfl) rfl
theorem wd_1027 : Cond.selects "MirrorHouseModel" yX7_side yX7_side ∈ mhT := mhT5 (List.mem_of_getElem? (i := 2) rfl) rfl
theorem wd_1028 : Cond.code yX7_side prog_9_method_23_code 4 (some .int) ∈ mhT := mhT5 (List.mem_of_getElem? (i := 3) rfl) rfl
theorem wd_1029 : Cond.methodLink "MirrorHouseModel" 163 yX7_isRoom ∈ mhT := mhT5 (List.mem_of_getElem? (i := 4) rfl) rfl
theorem wd_1031 : Cond.instanceMethod yX7_isRoom ∈ mhT := mhT5 (List.mem_of_getElem? (i := 6) rfl) rfl
theorem wd_1032 : Cond.code yX7_isRoom prog_9_method_13_code 3 (some .boolean) ∈ mhT := mhT5 (List.mem_of_getElem? (i := 7) rfl) rfl
theorem wd_1033 : Cond.methodLink "MirrorHouseLaw" 35 yX7_pane ∈ mhT := mhT5 (List.mem_of_getElem? (i := 8) rfl) rfl
theorem wd_1034 : Cond.instanceMethod yX7_pane ∈ mhT := mhT5 (List.mem_of_getElem? (i := 9) rfl) rfl
theorem wd_1035 : Cond.selects "MirrorHouseModel" yX7_pane yX7_pane ∈ mhT := mhT5 (List.mem_of_getElem? (i := 10) rfl) rfl
theorem wd_1036 : Cond.code yX7_pane prog_9_method_24_code 6 (some .int) ∈ mhT := mhT5 (List.mem_of_getElem? (i := 11) rfl) rfl
theorem wd_1037 : Cond.methodLink "MirrorHouseLaw" 40 yX7_seen ∈ mhT := mhT5 (List.mem_of_getElem? (i := 12) rfl) rfl
theorem wd_1038 : Cond.instanceMethod yX7_seen ∈ mhT := mhT5 (List.mem_of_getElem? (i := 13) rfl) rfl
theorem wd_1039 : Cond.selects "MirrorHouseModel" yX7_seen yX7_seen ∈ mhT := mhT5 (List.mem_of_getElem? (i := 14) rfl) rfl
theorem wd_1040 : Cond.code yX7_seen prog_9_method_30_code 7 (some .int) ∈ mhT := mhT5 (List.mem_of_getElem? (i := 15) rfl) rfl
theorem wd_1041 : Cond.methodLink "MirrorHouseModel" 196 yX7_isTurn ∈ mhT := mhT5 (List.mem_of_getElem? (i := 16) rfl) rfl
theorem wd_1042 : Cond.static yX7_isTurn ∈ mhT := mhT5 (List.mem_of_getElem? (i := 17) rfl) rfl
theorem wd_1043 : Cond.code yX7_isTurn prog_9_method_25_code 2 (some .boolean) ∈ mhT := mhT5 (List.mem_of_getElem? (i := 18) rfl) rfl
theorem wd_1044 : Cond.methodLink "MirrorHouseModel" 199 yX7_look ∈ mhT := mhT5 (List.mem_of_getElem? (i := 19) rfl) rfl
theorem wd_1046 : Cond.instanceMethod yX7_look ∈ mhT := mhT5 (List.mem_of_getElem? (i := 21) rfl) rfl
theorem wd_1047 : Cond.code yX7_look prog_9_method_29_code 6 none ∈ mhT := mhT5 (List.mem_of_getElem? (i := 22) rfl) rfl
theorem wd_1048 : Cond.methodLink "MirrorHouseModel" 188 yX7_setOut ∈ mhT := mhT5 (List.mem_of_getElem? (i := 23) rfl) rfl
theorem wd_1050 : Cond.instanceMethod yX7_setOut ∈ mhT := mhT5 (List.mem_of_getElem? (i := 25) rfl) rfl
theorem wd_1051 : Cond.code yX7_setOut prog_9_method_26_code 8 none ∈ mhT := mhT5 (List.mem_of_getElem? (i := 26) rfl) rfl
theorem wd_1052 : Cond.methodLink "MirrorHouseModel" 192 yX7_cross ∈ mhT := mhT5 (List.mem_of_getElem? (i := 27) rfl) rfl
theorem wd_1054 : Cond.instanceMethod yX7_cross ∈ mhT := mhT5 (List.mem_of_getElem? (i := 29) rfl) rfl
theorem wd_1055 : Cond.code yX7_cross prog_9_method_28_code 7 none ∈ mhT := mhT5 (List.mem_of_getElem? (i := 30) rfl) rfl
theorem wd_1056 : Cond.methodLink "MirrorHouseModel" 181 yX7_nextWay ∈ mhT := mhT5 (List.mem_of_getElem? (i := 31) rfl) rfl
theorem wd_1058 : Cond.instanceMethod yX7_nextWay ∈ mhT := mhT5 (List.mem_of_getElem? (i := 33) rfl) rfl
theorem wd_1059 : Cond.code yX7_nextWay prog_9_method_27_code 6 (some .int) ∈ mhT := mhT5 (List.mem_of_getElem? (i := 34) rfl) rfl
theorem wd_1060 : Cond.methodLink "MirrorHouseModel" 185 yX7_behind ∈ mhT := mhT5 (List.mem_of_getElem? (i := 35) rfl) rfl
theorem wd_1062 : Cond.instanceMethod yX7_behind ∈ mhT := mhT5 (List.mem_of_getElem? (i := 37) rfl) rfl
theorem wd_1063 : Cond.code yX7_behind prog_9_method_21_code 8 (some .int) ∈ mhT := mhT5 (List.mem_of_getElem? (i := 38) rfl) rfl
theorem wd_1064 : Cond.methodLink "MirrorHouseLaw" 45 yX7_met ∈ mhT := mhT5 (List.mem_of_getElem? (i := 39) rfl) rfl
theorem wd_1065 : Cond.instanceMethod yX7_met ∈ mhT := mhT5 (List.mem_of_getElem? (i := 40) rfl) rfl
theorem wd_1066 : Cond.selects "MirrorHouseModel" yX7_met yX7_met ∈ mhT := mhT5 (List.mem_of_getElem? (i := 41) rfl) rfl
theorem wd_1067 : Cond.code yX7_met prog_9_method_31_code 6 (some .int) ∈ mhT := mhT5 (List.mem_of_getElem? (i := 42) rfl) rfl
theorem wd_1068 : Cond.methodLink "MirrorHouseLaw" 49 yX7_image ∈ mhT := mhT5 (List.mem_of_getElem? (i := 43) rfl) rfl
theorem wd_1069 : Cond.instanceMethod yX7_image ∈ mhT := mhT5 (List.mem_of_getElem? (i := 44) rfl) rfl
theorem wd_1070 : Cond.selects "MirrorHouseModel" yX7_image yX7_image ∈ mhT := mhT5 (List.mem_of_getElem? (i := 45) rfl) rfl
theorem wd_1071 : Cond.code yX7_image prog_9_method_35_code 5 (some .int) ∈ mhT := mhT5 (List.mem_of_getElem? (i := 46) rfl) rfl
theorem wd_1072 : Cond.methodLink "MirrorHouseModel" 210 yX7_imageOf ∈ mhT := mhT5 (List.mem_of_getElem? (i := 47) rfl) rfl
theorem wd_1074 : Cond.instanceMethod yX7_imageOf ∈ mhT := mhT5 (List.mem_of_getElem? (i := 49) rfl) rfl
theorem wd_1075 : Cond.code yX7_imageOf prog_9_method_34_code 8 (some .int) ∈ mhT := mhT5 (List.mem_of_getElem? (i := 50) rfl) rfl
theorem wd_1076 : Cond.methodLink "MirrorHouseModel" 203 yX7_over ∈ mhT := mhT5 (List.mem_of_getElem? (i := 51) rfl) rfl
theorem wd_1077 : Cond.static yX7_over ∈ mhT := mhT5 (List.mem_of_getElem? (i := 52) rfl) rfl
theorem wd_1078 : Cond.code yX7_over prog_9_method_33_code 2 (some .int) ∈ mhT := mhT5 (List.mem_of_getElem? (i := 53) rfl) rfl
theorem wd_1079 : Cond.methodLink "MirrorHouseModel" 206 yX7_isAhead ∈ mhT := mhT5 (List.mem_of_getElem? (i := 54) rfl) rfl
theorem wd_1081 : Cond.instanceMethod yX7_isAhead ∈ mhT := mhT5 (List.mem_of_getElem? (i := 56) rfl) rfl
theorem wd_1082 : Cond.code yX7_isAhead prog_9_method_32_code 2 (some .boolean) ∈ mhT := mhT5 (List.mem_of_getElem? (i := 57) rfl) rfl
theorem wd_1083 : Cond.methodLink "MirrorHouseLaw" 53 yX7_images ∈ mhT := mhT5 (List.mem_of_getElem? (i := 58) rfl) rfl
theorem wd_1084 : Cond.instanceMethod yX7_images ∈ mhT := mhT5 (List.mem_of_getElem? (i := 59) rfl) rfl
theorem wd_1085 : Cond.selects "MirrorHouseModel" yX7_images yX7_images ∈ mhT := mhT5 (List.mem_of_getElem? (i := 60) rfl) rfl
theorem wd_1086 : Cond.code yX7_images prog_9_method_36_code 13 (some .int) ∈ mhT := mhT5 (List.mem_of_getElem? (i := 61) rfl) rfl
theorem wd_1087 : Cond.methodLink "MirrorHouseLaw" 58 yX7_report ∈ mhT := mhT5 (List.mem_of_getElem? (i := 62) rfl) rfl
theorem wd_1088 : Cond.instanceMethod yX7_report ∈ mhT := mhT5 (List.mem_of_getElem? (i := 63) rfl) rfl
theorem wd_1089 : Cond.selects "MirrorHouseModel" yX7_report yX7_report ∈ mhT := mhT5 (List.mem_of_getElem? (i := 64) rfl) rfl
theorem wd_1090 : Cond.code yX7_report prog_9_method_37_code 6 (some .int) ∈ mhT := mhT5 (List.mem_of_getElem? (i := 65) rfl) rfl
theorem wd_1091 : Cond.methodLink "MirrorHouseLaw" 63 yX7_spots ∈ mhT := mhT5 (List.mem_of_getElem? (i := 66) rfl) rfl
theorem wd_1092 : Cond.instanceMethod yX7_spots ∈ mhT := mhT5 (List.mem_of_getElem? (i := 67) rfl) rfl
theorem wd_1093 : Cond.selects "MirrorHouseModel" yX7_spots yX7_spots ∈ mhT := mhT5 (List.mem_of_getElem? (i := 68) rfl) rfl
theorem wd_1094 : Cond.code yX7_spots prog_9_method_38_code 6 (some .int) ∈ mhT := mhT5 (List.mem_of_getElem? (i := 69) rfl) rfl
theorem wd_1095 : Cond.methodLink "MirrorHouseLaw" 67 yX7_photograph ∈ mhT := mhT5 (List.mem_of_getElem? (i := 70) rfl) rfl
theorem wd_1096 : Cond.instanceMethod yX7_photograph ∈ mhT := mhT5 (List.mem_of_getElem? (i := 71) rfl) rfl
theorem wd_1097 : Cond.selects "MirrorHouseModel" yX7_photograph yX7_photograph ∈ mhT := mhT5 (List.mem_of_getElem? (i := 72) rfl) rfl
theorem wd_1098 : Cond.code yX7_photograph prog_9_method_39_code 8 (some .int) ∈ mhT := mhT5 (List.mem_of_getElem? (i := 73) rfl) rfl
theorem wd_1099 : Cond.methodLink "MirrorHouseLaw" 71 yX7_taken ∈ mhT := mhT5 (List.mem_of_getElem? (i := 74) rfl) rfl
theorem wd_1100 : Cond.instanceMethod yX7_taken ∈ mhT := mhT5 (List.mem_of_getElem? (i := 75) rfl) rfl
theorem wd_1101 : Cond.selects "MirrorHouseModel" yX7_taken yX7_taken ∈ mhT := mhT5 (List.mem_of_getElem? (i := 76) rfl) rfl
theorem wd_1102 : Cond.code yX7_taken prog_9_method_40_code 6 (some .int) ∈ mhT := mhT5 (List.mem_of_getElem? (i := 77) rfl) rfl
theorem wd_1103 : Cond.methodLink "MirrorHouseLaw" 75 yX7_walker ∈ mhT := mhT5 (List.mem_of_getElem? (i := 78) rfl) rfl
theorem wd_1104 : Cond.instanceMethod yX7_walker ∈ mhT := mhT5 (List.mem_of_getElem? (i := 79) rfl) rfl
theorem wd_1105 : Cond.selects "MirrorHouseModel" yX7_walker yX7_walker ∈ mhT := mhT5 (List.mem_of_getElem? (i := 80) rfl) rfl
theorem wd_1106 : Cond.code yX7_walker prog_9_method_42_code 7 (some .int) ∈ mhT := mhT5 (List.mem_of_getElem? (i := 81) rfl) rfl
theorem wd_1107 : Cond.methodLink "MirrorHouseLaw" 79 yX7_ticks ∈ mhT := mhT5 (List.mem_of_getElem? (i := 82) rfl) rfl
theorem wd_1108 : Cond.instanceMethod yX7_ticks ∈ mhT := mhT5 (List.mem_of_getElem? (i := 83) rfl) rfl
theorem wd_1109 : Cond.selects "MirrorHouseModel" yX7_ticks yX7_ticks ∈ mhT := mhT5 (List.mem_of_getElem? (i := 84) rfl) rfl
theorem wd_1110 : Cond.code yX7_ticks prog_9_method_47_code 5 (some .int) ∈ mhT := mhT5 (List.mem_of_getElem? (i := 85) rfl) rfl
theorem wd_1111 : Cond.methodLink "MirrorHouseModel" 231 yX7_walk ∈ mhT := mhT5 (List.mem_of_getElem? (i := 86) rfl) rfl
theorem wd_1113 : Cond.instanceMethod yX7_walk ∈ mhT := mhT5 (List.mem_of_getElem? (i := 88) rfl) rfl
theorem wd_1114 : Cond.code yX7_walk prog_9_method_46_code 5 none ∈ mhT := mhT5 (List.mem_of_getElem? (i := 89) rfl) rfl
theorem wd_1115 : Cond.methodLink "MirrorHouseModel" 228 yX7_choice ∈ mhT := mhT5 (List.mem_of_getElem? (i := 90) rfl) rfl
theorem wd_1117 : Cond.instanceMethod yX7_choice ∈ mhT := mhT5 (List.mem_of_getElem? (i := 92) rfl) rfl
theorem wd_1118 : Cond.code yX7_choice prog_9_method_45_code 9 (some .int) ∈ mhT := mhT5 (List.mem_of_getElem? (i := 93) rfl) rfl
theorem wd_1119 : Cond.methodLink "MirrorHouseModel" 222 yX7_hand ∈ mhT := mhT5 (List.mem_of_getElem? (i := 94) rfl) rfl
theorem wd_1120 : Cond.static yX7_hand ∈ mhT := mhT5 (List.mem_of_getElem? (i := 95) rfl) rfl
theorem wd_1121 : Cond.code yX7_hand prog_9_method_43_code 4 (some .int) ∈ mhT := mhT5 (List.mem_of_getElem? (i := 96) rfl) rfl
theorem wd_1122 : Cond.methodLink "MirrorHouseModel" 225 yX7_takes ∈ mhT := mhT5 (List.mem_of_getElem? (i := 97) rfl) rfl
theorem wd_1124 : Cond.instanceMethod yX7_takes ∈ mhT := mhT5 (List.mem_of_getElem? (i := 99) rfl) rfl
theorem wd_1125 : Cond.code yX7_takes prog_9_method_44_code 3 (some .boolean) ∈ mhT := mhT5 (List.mem_of_getElem? (i := 100) rfl) rfl
theorem wd_1126 : Cond.methodLink "MirrorHouseLaw" 83 yX7_ofWalker ∈ mhT := mhT5 (List.mem_of_getElem? (i := 101) rfl) rfl
theorem wd_1127 : Cond.instanceMethod yX7_ofWalker ∈ mhT := mhT5 (List.mem_of_getElem? (i := 102) rfl) rfl
theorem wd_1128 : Cond.selects "MirrorHouseModel" yX7_ofWalker yX7_ofWalker ∈ mhT := mhT5 (List.mem_of_getElem? (i := 103) rfl) rfl
theorem wd_1129 : Cond.code yX7_ofWalker prog_9_method_48_code 3 (some .int) ∈ mhT := mhT5 (List.mem_of_getElem? (i := 104) rfl) rfl
theorem wd_1130 : Cond.methodLink "MirrorHouseModel" 234 yX7_isWalker ∈ mhT := mhT5 (List.mem_of_getElem? (i := 105) rfl) rfl
theorem wd_1132 : Cond.instanceMethod yX7_isWalker ∈ mhT := mhT5 (List.mem_of_getElem? (i := 107) rfl) rfl
theorem wd_1133 : Cond.code yX7_isWalker prog_9_method_41_code 2 (some .boolean) ∈ mhT := mhT5 (List.mem_of_getElem? (i := 108) rfl) rfl
theorem wd_1134 : Cond.methodLink "MirrorHouseLaw" 87 yX7_shut ∈ mhT := mhT5 (List.mem_of_getElem? (i := 109) rfl) rfl
theorem wd_1135 : Cond.instanceMethod yX7_shut ∈ mhT := mhT5 (List.mem_of_getElem? (i := 110) rfl) rfl
theorem wd_1136 : Cond.selects "MirrorHouseModel" yX7_shut yX7_shut ∈ mhT := mhT5 (List.mem_of_getElem? (i := 111) rfl) rfl
theorem wd_1137 : Cond.code yX7_shut prog_9_method_51_code 2 (some .int) ∈ mhT := mhT5 (List.mem_of_getElem? (i := 112) rfl) rfl
theorem wd_1138 : Cond.methodLink "MirrorHouseModel" 240 yX7_shutOf ∈ mhT := mhT5 (List.mem_of_getElem? (i := 113) rfl) rfl
theorem wd_1140 : Cond.instanceMethod yX7_shutOf ∈ mhT := mhT5 (List.mem_of_getElem? (i := 115) rfl) rfl
theorem wd_1141 : Cond.code yX7_shutOf prog_9_method_50_code 3 (some .int) ∈ mhT := mhT5 (List.mem_of_getElem? (i := 116) rfl) rfl
theorem wd_1142 : Cond.methodLink "MirrorHouseModel" 237 yX7_layFars ∈ mhT := mhT5 (List.mem_of_getElem? (i := 117) rfl) rfl
theorem wd_1144 : Cond.instanceMethod yX7_layFars ∈ mhT := mhT5 (List.mem_of_getElem? (i := 119) rfl) rfl
theorem wd_1145 : Cond.code yX7_layFars prog_9_method_49_code 7 none ∈ mhT := mhT5 (List.mem_of_getElem? (i := 120) rfl) rfl
theorem wd_1146 : Cond.methodLink "MirrorHouseLaw" 91 yX7_far ∈ mhT := mhT5 (List.mem_of_getElem? (i := 121) rfl) rfl
theorem wd_1147 : Cond.instanceMethod yX7_far ∈ mhT := mhT5 (List.mem_of_getElem? (i := 122) rfl) rfl
theorem wd_1148 : Cond.selects "MirrorHouseModel" yX7_far yX7_far ∈ mhT := mhT5 (List.mem_of_getElem? (i := 123) rfl) rfl
theorem wd_1149 : Cond.code yX7_far prog_9_method_52_code 3 (some .int) ∈ mhT := mhT5 (List.mem_of_getElem? (i := 124) rfl) rfl
theorem wd_1150 : Cond.methodLink "MirrorHouseLaw" 95 yX7_opened ∈ mhT := mhT5 (List.mem_of_getElem? (i := 125) rfl) rfl
theorem wd_1151 : Cond.instanceMethod yX7_opened ∈ mhT := mhT5 (List.mem_of_getElem? (i := 126) rfl) rfl
theorem wd_1152 : Cond.selects "MirrorHouseModel" yX7_opened yX7_opened ∈ mhT := mhT5 (List.mem_of_getElem? (i := 127) rfl) rfl
theorem wd_1153 : Cond.code yX7_opened prog_9_method_55_code 5 (some .int) ∈ mhT := mhT5 (List.mem_of_getElem? (i := 128) rfl) rfl
theorem wd_1154 : Cond.methodLink "MirrorHouseModel" 252 yX7_findOpened ∈ mhT := mhT5 (List.mem_of_getElem? (i := 129) rfl) rfl
theorem wd_1156 : Cond.instanceMethod yX7_findOpened ∈ mhT := mhT5 (List.mem_of_getElem? (i := 131) rfl) rfl
theorem wd_1157 : Cond.code yX7_findOpened prog_9_method_54_code 10 (some .int) ∈ mhT := mhT5 (List.mem_of_getElem? (i := 132) rfl) rfl
theorem wd_1158 : Cond.methodLink "MirrorHouseModel" 243 yX7_areNear ∈ mhT := mhT5 (List.mem_of_getElem? (i := 133) rfl) rfl
theorem wd_1160 : Cond.instanceMethod yX7_areNear ∈ mhT := mhT5 (List.mem_of_getElem? (i := 135) rfl) rfl
theorem wd_1161 : Cond.code yX7_areNear prog_9_method_53_code 4 (some .boolean) ∈ mhT := mhT5 (List.mem_of_getElem? (i := 136) rfl) rfl
theorem wd_1162 : Cond.methodLink "MirrorHouseLaw" 100 yX7_keeps ∈ mhT := mhT5 (List.mem_of_getElem? (i := 137) rfl) rfl
theorem wd_1163 : Cond.instanceMethod yX7_keeps ∈ mhT := mhT5 (List.mem_of_getElem? (i := 138) rfl) rfl
theorem wd_1164 : Cond.selects "MirrorHouseModel" yX7_keeps yX7_keeps ∈ mhT := mhT5 (List.mem_of_getElem? (i := 139) rfl) rfl
theorem wd_1165 : Cond.code yX7_keeps prog_9_method_57_code 15 (some .int) ∈ mhT := mhT5 (List.mem_of_getElem? (i := 140) rfl) rfl
theorem wd_1166 : Cond.methodLink "MirrorHouseModel" 255 yX7_has ∈ mhT := mhT5 (List.mem_of_getElem? (i := 141) rfl) rfl
theorem wd_1167 : Cond.static yX7_has ∈ mhT := mhT5 (List.mem_of_getElem? (i := 142) rfl) rfl
theorem wd_1168 : Cond.code yX7_has prog_9_method_6_code 2 (some .boolean) ∈ mhT := mhT5 (List.mem_of_getElem? (i := 143) rfl) rfl
theorem wd_1169 : Cond.methodLink "MirrorHouseModel" 258 yX7_blindTicks ∈ mhT := mhT5 (List.mem_of_getElem? (i := 144) rfl) rfl
theorem wd_1171 : Cond.instanceMethod yX7_blindTicks ∈ mhT := mhT5 (List.mem_of_getElem? (i := 146) rfl) rfl
theorem wd_1172 : Cond.code yX7_blindTicks prog_9_method_56_code 10 (some .int) ∈ mhT := mhT5 (List.mem_of_getElem? (i := 147) rfl) rfl
theorem wd_1173 : Cond.methodLink "MirrorHouseLaw" 105 yX7_changed ∈ mhT := mhT5 (List.mem_of_getElem? (i := 148) rfl) rfl
theorem wd_1174 : Cond.instanceMethod yX7_changed ∈ mhT := mhT5 (List.mem_of_getElem? (i := 149) rfl) rfl
theorem wd_1175 : Cond.selects "MirrorHouseModel" yX7_changed yX7_changed ∈ mhT := mhT5 (List.mem_of_getElem? (i := 150) rfl) rfl
theorem wd_1176 : Cond.code yX7_changed prog_9_method_60_code 3 (some .long) ∈ mhT := mhT5 (List.mem_of_getElem? (i := 151) rfl) rfl
theorem wd_1177 : Cond.methodLink "MirrorHouseModel" 264 yX7_whyNot ∈ mhT := mhT5 (List.mem_of_getElem? (i := 152) rfl) rfl
theorem wd_1179 : Cond.instanceMethod yX7_whyNot ∈ mhT := mhT5 (List.mem_of_getElem? (i := 154) rfl) rfl
theorem wd_1180 : Cond.code yX7_whyNot prog_9_method_58_code 4 (some .int) ∈ mhT := mhT5 (List.mem_of_getElem? (i := 155) rfl) rfl
theorem wd_1181 : Cond.constantLong "MirrorHouseModel" 106 (-9223372036854775808) ∈ mhT := mhT5 (List.mem_of_getElem? (i := 156) rfl) rfl
theorem wd_1182 : Cond.methodLink "MirrorHouseModel" 267 yX7_layRows ∈ mhT := mhT5 (List.mem_of_getElem? (i := 157) rfl) rfl
theorem wd_1184 : Cond.instanceMethod yX7_layRows ∈ mhT := mhT5 (List.mem_of_getElem? (i := 159) rfl) rfl
theorem wd_1185 : Cond.code yX7_layRows prog_9_method_59_code 6 none ∈ mhT := mhT5 (List.mem_of_getElem? (i := 160) rfl) rfl
theorem wd_1186 : Cond.methodLink "MirrorHouseLaw" 109 yX7_change ∈ mhT := mhT5 (List.mem_of_getElem? (i := 161) rfl) rfl
theorem wd_1187 : Cond.instanceMethod yX7_change ∈ mhT := mhT5 (List.mem_of_getElem? (i := 162) rfl) rfl
theorem wd_1188 : Cond.selects "MirrorHouseModel" yX7_change yX7_change ∈ mhT := mhT5 (List.mem_of_getElem? (i := 163) rfl) rfl
theorem wd_1189 : Cond.code yX7_change prog_9_method_61_code 8 (some .int) ∈ mhT := mhT5 (List.mem_of_getElem? (i := 164) rfl) rfl
theorem wd_1190 : Cond.methodLink "MirrorHouseLaw" 113 yX7_sheet ∈ mhT := mhT5 (List.mem_of_getElem? (i := 165) rfl) rfl
theorem wd_1191 : Cond.instanceMethod yX7_sheet ∈ mhT := mhT5 (List.mem_of_getElem? (i := 166) rfl) rfl
theorem wd_1192 : Cond.selects "MirrorHouseModel" yX7_sheet yX7_sheet ∈ mhT := mhT5 (List.mem_of_getElem? (i := 167) rfl) rfl
theorem wd_1193 : Cond.code yX7_sheet prog_9_method_62_code 5 (some .int) ∈ mhT := mhT5 (List.mem_of_getElem? (i := 168) rfl) rfl
theorem wd_1194 : Cond.methodLink "MirrorHouseLaw" 117 yX7_lose ∈ mhT := mhT5 (List.mem_of_getElem? (i := 169) rfl) rfl
theorem wd_1195 : Cond.instanceMethod yX7_lose ∈ mhT := mhT5 (List.mem_of_getElem? (i := 170) rfl) rfl
theorem wd_1196 : Cond.selects "MirrorHouseModel" yX7_lose yX7_lose ∈ mhT := mhT5 (List.mem_of_getElem? (i := 171) rfl) rfl
theorem wd_1197 : Cond.code yX7_lose prog_9_method_63_code 3 (some .int) ∈ mhT := mhT5 (List.mem_of_getElem? (i := 172) rfl) rfl
theorem wd_1198 : Cond.methodLink "MirrorHouseLaw" 121 yX7_put ∈ mhT := mhT5 (List.mem_of_getElem? (i := 173) rfl) rfl
theorem wd_1199 : Cond.instanceMethod yX7_put ∈ mhT := mhT5 (List.mem_of_getElem? (i := 174) rfl) rfl
theorem wd_1200 : Cond.selects "MirrorHouseModel" yX7_put yX7_put ∈ mhT := mhT5 (List.mem_of_getElem? (i := 175) rfl) rfl
theorem wd_1201 : Cond.code yX7_put prog_9_method_64_code 4 (some .int) ∈ mhT := mhT5 (List.mem_of_getElem? (i := 176) rfl) rfl
theorem wd_1202 : Cond.methodLink "MirrorHouseLaw" 126 yX7_cell ∈ mhT := mhT5 (List.mem_of_getElem? (i := 177) rfl) rfl
theorem wd_1203 : Cond.instanceMethod yX7_cell ∈ mhT := mhT5 (List.mem_of_getElem? (i := 178) rfl) rfl
theorem wd_1204 : Cond.selects "MirrorHouseModel" yX7_cell yX7_cell ∈ mhT := mhT5 (List.mem_of_getElem? (i := 179) rfl) rfl
theorem wd_1205 : Cond.code yX7_cell prog_9_method_65_code 4 (some .long) ∈ mhT := mhT5 (List.mem_of_getElem? (i := 180) rfl) rfl
theorem wd_1206 : Cond.methodLink "MirrorHouseModel" 271 yX7_lost ∈ mhT := mhT5 (List.mem_of_getElem? (i := 181) rfl) rfl
theorem wd_1208 : Cond.instanceMethod yX7_lost ∈ mhT := mhT5 (List.mem_of_getElem? (i := 183) rfl) rfl
theorem wd_1209 : Cond.code yX7_lost prog_9_method_4_code 2 (some .long) ∈ mhT := mhT5 (List.mem_of_getElem? (i := 184) rfl) rfl
theorem wd_1210 : Cond.methodLink "MirrorHouseLaw" 130 yX7_copy ∈ mhT := mhT5 (List.mem_of_getElem? (i := 185) rfl) rfl
theorem wd_1211 : Cond.instanceMethod yX7_copy ∈ mhT := mhT5 (List.mem_of_getElem? (i := 186) rfl) rfl
theorem wd_1212 : Cond.selects "MirrorHouseModel" yX7_copy yX7_copy ∈ mhT := mhT5 (List.mem_of_getElem? (i := 187) rfl) rfl
theorem wd_1213 : Cond.code yX7_copy prog_9_method_66_code 10 (some .int) ∈ mhT := mhT5 (List.mem_of_getElem? (i := 188) rfl) rfl
theorem wd_1214 : Cond.methodLink "MirrorHouseLaw" 134 yX7_tell ∈ mhT := mhT5 (List.mem_of_getElem? (i := 189) rfl) rfl
theorem wd_1215 : Cond.instanceMethod yX7_tell ∈ mhT := mhT5 (List.mem_of_getElem? (i := 190) rfl) rfl
theorem wd_1216 : Cond.selects "MirrorHouseModel" yX7_tell yX7_tell ∈ mhT := mhT5 (List.mem_of_getElem? (i := 191) rfl) rfl
theorem wd_1217 : Cond.code yX7_tell prog_9_method_68_code 3 (some .int) ∈ mhT := mhT5 (List.mem_of_getElem? (i := 192) rfl) rfl
theorem wd_1218 : Cond.methodLink "MirrorHouseModel" 278 yX7_begins ∈ mhT := mhT5 (List.mem_of_getElem? (i := 193) rfl) rfl
theorem wd_1220 : Cond.instanceMethod yX7_begins ∈ mhT := mhT5 (List.mem_of_getElem? (i := 195) rfl) rfl
theorem wd_1221 : Cond.code yX7_begins prog_9_method_67_code 2 none ∈ mhT := mhT5 (List.mem_of_getElem? (i := 196) rfl) rfl
theorem wd_1222 : Cond.methodLink "MirrorHouseLaw" 138 yX7_greet ∈ mhT := mhT5 (List.mem_of_getElem? (i := 197) rfl) rfl
theorem wd_1223 : Cond.instanceMethod yX7_greet ∈ mhT := mhT5 (List.mem_of_getElem? (i := 198) rfl) rfl
theorem wd_1224 : Cond.selects "MirrorHouseModel" yX7_greet yX7_greet ∈ mhT := mhT5 (List.mem_of_getElem? (i := 199) rfl) rfl
theorem wd_1225 : Cond.code yX7_greet prog_9_method_69_code 2 (some .int) ∈ mhT := mhT5 (List.mem_of_getElem? (i := 200) rfl) rfl
theorem wd_1226 : Cond.methodLink "MirrorHouseLaw" 142 yX7_as ∈ mhT := mhT5 (List.mem_of_getElem? (i := 201) rfl) rfl
theorem wd_1227 : Cond.instanceMethod yX7_as ∈ mhT := mhT5 (List.mem_of_getElem? (i := 202) rfl) rfl
theorem wd_1228 : Cond.selects "MirrorHouseModel" yX7_as yX7_as ∈ mhT := mhT5 (List.mem_of_getElem? (i := 203) rfl) rfl
theorem wd_1229 : Cond.code yX7_as prog_9_method_70_code 3 (some .int) ∈ mhT := mhT5 (List.mem_of_getElem? (i := 204) rfl) rfl
theorem wd_1230 : Cond.methodLink "MirrorHouseLaw" 147 yX7_trace ∈ mhT := mhT5 (List.mem_of_getElem? (i := 205) rfl) rfl
theorem wd_1231 : Cond.instanceMethod yX7_trace ∈ mhT := mhT5 (List.mem_of_getElem? (i := 206) rfl) rfl
theorem wd_1232 : Cond.selects "MirrorHouseModel" yX7_trace yX7_trace ∈ mhT := mhT5 (List.mem_of_getElem? (i := 207) rfl) rfl
theorem wd_1233 : Cond.code yX7_trace prog_9_method_71_code 1 (some .int) ∈ mhT := mhT5 (List.mem_of_getElem? (i := 208) rfl) rfl
theorem wd_1234 : Cond.methodLink "MirrorHouseLaw" 151 yX7_fault ∈ mhT := mhT5 (List.mem_of_getElem? (i := 209) rfl) rfl
theorem wd_1235 : Cond.instanceMethod yX7_fault ∈ mhT := mhT5 (List.mem_of_getElem? (i := 210) rfl) rfl
theorem wd_1236 : Cond.selects "MirrorHouseModel" yX7_fault yX7_fault ∈ mhT := mhT5 (List.mem_of_getElem? (i := 211) rfl) rfl
theorem wd_1237 : Cond.code yX7_fault prog_9_method_72_code 1 (some .int) ∈ mhT := mhT5 (List.mem_of_getElem? (i := 212) rfl) rfl
theorem wd_1238 : Cond.methodLink "MirrorHouseLaw" 155 yX7_many ∈ mhT := mhT5 (List.mem_of_getElem? (i := 213) rfl) rfl
theorem wd_1239 : Cond.instanceMethod yX7_many ∈ mhT := mhT5 (List.mem_of_getElem? (i := 214) rfl) rfl
theorem wd_1240 : Cond.selects "MirrorHouseModel" yX7_many yX7_many ∈ mhT := mhT5 (List.mem_of_getElem? (i := 215) rfl) rfl
theorem wd_1241 : Cond.code yX7_many prog_9_method_73_code 4 (some .int) ∈ mhT := mhT5 (List.mem_of_getElem? (i := 216) rfl) rfl
