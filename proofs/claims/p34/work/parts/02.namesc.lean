def wsX5_needed_r3 : List Cond := [Cond.methodLink RX4 42 yX4_tensionOf, Cond.instanceMethod yX4_tensionOf, Cond.selects RX4 yX4_tensionOf yX4_tensionOf, Cond.code yX4_tensionOf cX4_tensionOf 7 (some .int), Cond.methodLink RX4 33 Lib.Math.min.name, Cond.static Lib.Math.min.name, Cond.code Lib.Math.min.name Lib.Math.min.code 2 (some .int), Cond.fieldLink RX4 15 "CableFerry$Wire" "slack" "I", Cond.methodLink RX4 39 Lib.Math.max.name, Cond.static Lib.Math.max.name, Cond.code Lib.Math.max.name Lib.Math.max.code 2 (some .int), Cond.methodLink RX4 46 yX4_strengthOf, Cond.instanceMethod yX4_strengthOf, Cond.selects RX4 yX4_strengthOf yX4_strengthOf, Cond.code yX4_strengthOf cX4_strengthOf 3 (some .int), Cond.fieldLink RX4 9 "CableFerry$Wire" "wears" "[I", Cond.methodLink RX5 133 yX3_canDrawThrough, Cond.instanceMethod yX3_canDrawThrough, Cond.selects RX3 yX3_canDrawThrough yX3_canDrawThrough, Cond.code yX3_canDrawThrough cX3_canDrawThrough 2 (some .boolean), Cond.fieldLink RX3 168 "CableFerry$Wire" "drum" "I", Cond.methodLink RX5 188 yX3_copyFrom, Cond.instanceMethod yX3_copyFrom, Cond.selects RX3 yX3_copyFrom yX3_copyFrom]
def wsX5_needed_r4 : List Cond := [Cond.code yX3_copyFrom cX3_copyFrom 2 none, Cond.fieldLink RX3 30 "CableFerry$State" "bank0" "LCableFerry$Line;", Cond.fieldLink RX3 34 "CableFerry$State" "bank1" "LCableFerry$Line;", Cond.fieldLink RX3 61 "CableFerry$State" "ferryBank" "I", Cond.fieldLink RX3 64 "CableFerry$State" "crossings" "I", Cond.fieldLink RX3 67 "CableFerry$State" "arrived" "I", Cond.fieldLink RX3 70 "CableFerry$State" "carried" "I", Cond.fieldLink RX3 73 "CableFerry$State" "turnedBack" "I", Cond.fieldLink RX3 76 "CableFerry$State" "hoursWaited" "I", Cond.static yX5_copyRow, Cond.code yX5_copyRow cX5_copyRow 2 none, Cond.methodLink RX5 313 Lib.Math.min.name, Cond.methodLink RX5 319 arraycopyName, Cond.native arraycopyName, Cond.static arraycopyName, Cond.initialized "java/lang/System", Cond.methodLink RX3 50 yX1_copyFrom, Cond.instanceMethod yX1_copyFrom, Cond.selects RX1 yX1_copyFrom yX1_copyFrom, Cond.code yX1_copyFrom cX1_copyFrom 2 none, Cond.fieldLink RX1 9 "CableFerry$Line" "weights" "[I", Cond.fieldLink RX1 15 "CableFerry$Line" "banks" "[I", Cond.fieldLink RX1 18 "CableFerry$Line" "size" "I", Cond.methodLink RX3 54 yX4_copyFrom]
def wsX5_needed_r5 : List Cond := [Cond.instanceMethod yX4_copyFrom, Cond.selects RX4 yX4_copyFrom yX4_copyFrom, Cond.code yX4_copyFrom cX4_copyFrom 2 none, Cond.fieldLink RX4 19 "CableFerry$Wire" "stretch" "I", Cond.fieldLink RX4 22 "CableFerry$Wire" "drum" "I", Cond.methodLink RX5 138 yX3_drawThrough, Cond.instanceMethod yX3_drawThrough, Cond.selects RX3 yX3_drawThrough yX3_drawThrough, Cond.code yX3_drawThrough cX3_drawThrough 2 none, Cond.methodLink RX3 171 yX4_renew, Cond.instanceMethod yX4_renew, Cond.selects RX4 yX4_renew yX4_renew, Cond.code yX4_renew cX4_renew 3 none, Cond.static yX5_put, Cond.code yX5_put cX5_put 3 none, Cond.methodLink RX3 165 yX3_letPass, Cond.instanceMethod yX3_letPass, Cond.selects RX3 yX3_letPass yX3_letPass, Cond.code yX3_letPass cX3_letPass 2 none, Cond.methodLink RX3 79 yX1_size, Cond.instanceMethod yX1_size, Cond.selects RX1 yX1_size yX1_size, Cond.code yX1_size cX1_size 1 (some .int)]
def wsX5_needed : List Cond := .code yX5_needed cX5_needed 2 (some .int) :: ((wsX5_needed_r1 ++ (wsX5_needed_r2 ++ (wsX5_needed_r3 ++ (wsX5_needed_r4 ++ wsX5_needed_r5)))) ++ wsX50 ++ wsX30 ++ wsX40 ++ wsX10)
def wsX5_wornShare : List Cond := .code yX5_wornShare cX5_wornShare 1 (some .float) :: ([.fieldLink RX5 10 "CableFerry" "now" "LCableFerry$State;", .fieldLink RX5 141 "CableFerry$State" "wire" "LCableFerry$Wire;", .constantFloat RX5 274 (1184645120), .methodLink RX5 271 yX4_wearTogether, .instanceMethod yX4_wearTogether, .selects RX4 yX4_wearTogether yX4_wearTogether, .initialized RX4, .code yX4_wearTogether cX4_wearTogether 3 (some .int), .fieldLink RX4 9 "CableFerry$Wire" "wears" "[I", .static yX5_at, .initialized RX5, .code yX5_at cX5_at 2 (some .int)] ++ wsX50 ++ wsX30 ++ wsX40)
def wsX5_carriedShare : List Cond := .code yX5_carriedShare cX5_carriedShare 2 (some .double) :: ([.fieldLink RX5 10 "CableFerry" "now" "LCableFerry$State;", .fieldLink RX5 249 "CableFerry$State" "carried" "I", .fieldLink RX5 252 "CableFerry$State" "turnedBack" "I"] ++ wsX50 ++ wsX30)
def wsX5_mix : List Cond := .code yX5_mix cX5_mix 4 (some .long) :: ([.constantLong RX5 337 (31)])
def wsX5_mixCounts_r1 : List Cond := [Cond.methodLink RX5 339 yX5_count, Cond.instanceMethod yX5_count, Cond.selects RX5 yX5_count yX5_count, Cond.initialized RX5, Cond.code yX5_count cX5_count 2 (some .int), Cond.classLink RX5 51 "java/lang/IllegalArgumentException", Cond.initialized "java/lang/IllegalArgumentException", Cond.fieldLink RX5 10 "CableFerry" "now" "LCableFerry$State;", Cond.fieldLink RX5 127 "CableFerry$State" "hours" "I", Cond.fieldLink RX5 225 "CableFerry$State" "ferryBank" "I", Cond.fieldLink RX5 141 "CableFerry$State" "wire" "LCableFerry$Wire;", Cond.fieldLink RX5 237 "CableFerry$Wire" "slack" "I", Cond.fieldLink RX5 240 "CableFerry$Wire" "stretch" "I", Cond.fieldLink RX5 145 "CableFerry$Wire" "drum" "I", Cond.fieldLink RX5 243 "CableFerry$State" "crossings" "I", Cond.fieldLink RX5 246 "CableFerry$State" "arrived" "I", Cond.fieldLink RX5 249 "CableFerry$State" "carried" "I", Cond.fieldLink RX5 252 "CableFerry$State" "turnedBack" "I", Cond.fieldLink RX5 255 "CableFerry$State" "hoursWaited" "I", Cond.fieldLink RX5 25 "CableFerry" "history" "LCableFerry$History;", Cond.methodLink RX5 228 yX3_vehiclesOnDeck, Cond.instanceMethod yX3_vehiclesOnDeck, Cond.selects RX3 yX3_vehiclesOnDeck yX3_vehiclesOnDeck, Cond.initialized RX3]
def wsX5_mixCounts_r2 : List Cond := [Cond.code yX3_vehiclesOnDeck cX3_vehiclesOnDeck 1 (some .int), Cond.fieldLink RX3 37 "CableFerry$State" "lane0" "LCableFerry$Line;", Cond.fieldLink RX3 40 "CableFerry$State" "lane1" "LCableFerry$Line;", Cond.methodLink RX3 79 yX1_size, Cond.instanceMethod yX1_size, Cond.selects RX1 yX1_size yX1_size, Cond.initialized RX1, Cond.code yX1_size cX1_size 1 (some .int), Cond.fieldLink RX1 18 "CableFerry$Line" "size" "I", Cond.methodLink RX5 231 yX3_weightOnDeck, Cond.instanceMethod yX3_weightOnDeck, Cond.selects RX3 yX3_weightOnDeck yX3_weightOnDeck, Cond.code yX3_weightOnDeck cX3_weightOnDeck 1 (some .int), Cond.methodLink RX3 83 yX1_weight, Cond.instanceMethod yX1_weight, Cond.selects RX1 yX1_weight yX1_weight, Cond.code yX1_weight cX1_weight 1 (some .int), Cond.fieldLink RX1 22 "CableFerry$Line" "weight" "I", Cond.methodLink RX5 234 yX3_list, Cond.instanceMethod yX3_list, Cond.selects RX3 yX3_list yX3_list, Cond.code yX3_list cX3_list 1 (some .int), Cond.methodLink RX3 86 Lib.Math.abs.name, Cond.static Lib.Math.abs.name]
def wsX5_mixCounts_r3 : List Cond := [Cond.initialized "java/lang/Math", Cond.code Lib.Math.abs.name Lib.Math.abs.code 1 (some .int), Cond.methodLink RX5 193 yX0_size, Cond.instanceMethod yX0_size, Cond.selects RX0 yX0_size yX0_size, Cond.initialized RX0, Cond.code yX0_size cX0_size 1 (some .int), Cond.fieldLink RX0 22 "CableFerry$History" "size" "I", Cond.methodLink RX5 298 yX5_mix, Cond.static yX5_mix, Cond.code yX5_mix cX5_mix 4 (some .long), Cond.constantLong RX5 337 (31)]
def wsX5_mixCounts : List Cond := .code yX5_mixCounts cX5_mixCounts 6 (some .long) :: ((wsX5_mixCounts_r1 ++ (wsX5_mixCounts_r2 ++ wsX5_mixCounts_r3)) ++ wsX50 ++ wsX30 ++ wsX40 ++ wsX10 ++ wsX00 ++ (vx_atS RX5 55 "java/lang/IllegalArgumentException" ["java/lang/RuntimeException", "java/lang/Exception"]).filter goodWord)
def wsX5_mixRiverAndWire_r1 : List Cond := [Cond.methodLink RX5 342 yX5_setting, Cond.instanceMethod yX5_setting, Cond.selects RX5 yX5_setting yX5_setting, Cond.initialized RX5, Cond.code yX5_setting cX5_setting 2 (some .int), Cond.classLink RX5 44 "java/lang/IndexOutOfBoundsException", Cond.initialized "java/lang/IndexOutOfBoundsException", Cond.fieldLink RX5 10 "CableFerry" "now" "LCableFerry$State;", Cond.fieldLink RX5 160 "CableFerry$State" "settings" "[I", Cond.methodLink RX5 40 yX5_isWithin, Cond.static yX5_isWithin, Cond.code yX5_isWithin cX5_isWithin 3 (some .boolean), Cond.methodLink RX5 64 yX5_at, Cond.static yX5_at, Cond.code yX5_at cX5_at 2 (some .int), Cond.methodLink RX5 298 yX5_mix, Cond.static yX5_mix, Cond.code yX5_mix cX5_mix 4 (some .long), Cond.constantLong RX5 337 (31), Cond.methodLink RX5 345 yX5_currentOf, Cond.instanceMethod yX5_currentOf, Cond.selects RX5 yX5_currentOf yX5_currentOf, Cond.code yX5_currentOf cX5_currentOf 2 (some .int), Cond.fieldLink RX5 60 "CableFerry$State" "currents" "[I"]
def wsX5_mixRiverAndWire_r2 : List Cond := [Cond.methodLink RX5 348 yX5_section, Cond.instanceMethod yX5_section, Cond.selects RX5 yX5_section yX5_section, Cond.code yX5_section cX5_section 3 (some .int), Cond.classLink RX5 51 "java/lang/IllegalArgumentException", Cond.initialized "java/lang/IllegalArgumentException", Cond.fieldLink RX5 141 "CableFerry$State" "wire" "LCableFerry$Wire;", Cond.methodLink RX5 201 yX4_wearOf, Cond.instanceMethod yX4_wearOf, Cond.selects RX4 yX4_wearOf yX4_wearOf, Cond.initialized RX4, Cond.code yX4_wearOf cX4_wearOf 2 (some .int), Cond.fieldLink RX4 9 "CableFerry$Wire" "wears" "[I", Cond.methodLink RX5 204 yX3_strengthOf, Cond.instanceMethod yX3_strengthOf, Cond.selects RX3 yX3_strengthOf yX3_strengthOf, Cond.initialized RX3, Cond.code yX3_strengthOf cX3_strengthOf 2 (some .int), Cond.fieldLink RX3 46 "CableFerry$State" "wire" "LCableFerry$Wire;", Cond.fieldLink RX3 15 "CableFerry$State" "settings" "[I", Cond.methodLink RX3 100 yX4_strengthOf, Cond.instanceMethod yX4_strengthOf, Cond.selects RX4 yX4_strengthOf yX4_strengthOf, Cond.code yX4_strengthOf cX4_strengthOf 3 (some .int)]
def wsX5_mixRiverAndWire_r3 : List Cond := [Cond.methodLink RX4 39 Lib.Math.max.name, Cond.static Lib.Math.max.name, Cond.initialized "java/lang/Math", Cond.code Lib.Math.max.name Lib.Math.max.code 2 (some .int), Cond.methodLink RX5 207 yX3_tensionOf, Cond.instanceMethod yX3_tensionOf, Cond.selects RX3 yX3_tensionOf yX3_tensionOf, Cond.code yX3_tensionOf cX3_tensionOf 2 (some .int), Cond.methodLink RX3 103 yX3_currentAhead, Cond.instanceMethod yX3_currentAhead, Cond.selects RX3 yX3_currentAhead yX3_currentAhead, Cond.code yX3_currentAhead cX3_currentAhead 2 (some .int), Cond.fieldLink RX3 9 "CableFerry$State" "currents" "[I", Cond.fieldLink RX3 57 "CableFerry$State" "hours" "I", Cond.methodLink RX3 92 yJ9_floorMod_7cf53, Cond.static yJ9_floorMod_7cf53, Cond.initialized RJ9, Cond.code yJ9_floorMod_7cf53 cJ9_floorMod_7cf53 3 (some .int), Cond.methodLink RX3 106 yX3_weightOnDeck, Cond.instanceMethod yX3_weightOnDeck, Cond.selects RX3 yX3_weightOnDeck yX3_weightOnDeck, Cond.code yX3_weightOnDeck cX3_weightOnDeck 1 (some .int), Cond.fieldLink RX3 37 "CableFerry$State" "lane0" "LCableFerry$Line;", Cond.fieldLink RX3 40 "CableFerry$State" "lane1" "LCableFerry$Line;"]
def wsX5_mixRiverAndWire_r4 : List Cond := [Cond.methodLink RX3 83 yX1_weight, Cond.instanceMethod yX1_weight, Cond.selects RX1 yX1_weight yX1_weight, Cond.initialized RX1, Cond.code yX1_weight cX1_weight 1 (some .int), Cond.fieldLink RX1 22 "CableFerry$Line" "weight" "I", Cond.methodLink RX3 109 yX3_list, Cond.instanceMethod yX3_list, Cond.selects RX3 yX3_list yX3_list, Cond.code yX3_list cX3_list 1 (some .int), Cond.methodLink RX3 86 Lib.Math.abs.name, Cond.static Lib.Math.abs.name, Cond.code Lib.Math.abs.name Lib.Math.abs.code 1 (some .int), Cond.methodLink RX3 112 yX4_tensionOf, Cond.instanceMethod yX4_tensionOf, Cond.selects RX4 yX4_tensionOf yX4_tensionOf, Cond.code yX4_tensionOf cX4_tensionOf 7 (some .int), Cond.methodLink RX4 33 Lib.Math.min.name, Cond.static Lib.Math.min.name, Cond.code Lib.Math.min.name Lib.Math.min.code 2 (some .int), Cond.fieldLink RX4 15 "CableFerry$Wire" "slack" "I"]
def wsX5_mixRiverAndWire : List Cond := .code yX5_mixRiverAndWire cX5_mixRiverAndWire 7 (some .long) :: ((wsX5_mixRiverAndWire_r1 ++ (wsX5_mixRiverAndWire_r2 ++ (wsX5_mixRiverAndWire_r3 ++ wsX5_mixRiverAndWire_r4))) ++ wsX50 ++ wsX30 ++ wsX40 ++ wsX10 ++ (vx_atS RX5 48 "java/lang/IndexOutOfBoundsException" ["java/lang/RuntimeException", "java/lang/Exception"]).filter goodWord ++ (vx_atS RX5 55 "java/lang/IllegalArgumentException" ["java/lang/RuntimeException", "java/lang/Exception"]).filter goodWord)
def wsX5_mixVehicles_r1 : List Cond := [Cond.fieldLink RX5 10 "CableFerry" "now" "LCableFerry$State;", Cond.methodLink RX5 89 yX3_lineAtBank, Cond.instanceMethod yX3_lineAtBank, Cond.selects RX3 yX3_lineAtBank yX3_lineAtBank, Cond.initialized RX3, Cond.code yX3_lineAtBank cX3_lineAtBank 2 (some (.object "CableFerry$Line")), Cond.fieldLink RX3 30 "CableFerry$State" "bank0" "LCableFerry$Line;", Cond.fieldLink RX3 34 "CableFerry$State" "bank1" "LCableFerry$Line;", Cond.methodLink RX5 93 yX1_size, Cond.instanceMethod yX1_size, Cond.selects RX1 yX1_size yX1_size, Cond.initialized RX1, Cond.code yX1_size cX1_size 1 (some .int), Cond.fieldLink RX1 18 "CableFerry$Line" "size" "I", Cond.methodLink RX5 298 yX5_mix, Cond.static yX5_mix, Cond.initialized RX5, Cond.code yX5_mix cX5_mix 4 (some .long), Cond.constantLong RX5 337 (31), Cond.methodLink RX5 214 yX1_weightOf, Cond.instanceMethod yX1_weightOf, Cond.selects RX1 yX1_weightOf yX1_weightOf, Cond.code yX1_weightOf cX1_weightOf 2 (some .int), Cond.fieldLink RX1 9 "CableFerry$Line" "weights" "[I"]
def wsX5_mixVehicles_r2 : List Cond := [Cond.static yX5_at, Cond.code yX5_at cX5_at 2 (some .int), Cond.methodLink RX5 219 yX3_lineOnLane, Cond.instanceMethod yX3_lineOnLane, Cond.selects RX3 yX3_lineOnLane yX3_lineOnLane, Cond.code yX3_lineOnLane cX3_lineOnLane 2 (some (.object "CableFerry$Line")), Cond.fieldLink RX3 37 "CableFerry$State" "lane0" "LCableFerry$Line;", Cond.fieldLink RX3 40 "CableFerry$State" "lane1" "LCableFerry$Line;", Cond.methodLink RX5 222 yX1_bankOf, Cond.instanceMethod yX1_bankOf, Cond.selects RX1 yX1_bankOf yX1_bankOf, Cond.code yX1_bankOf cX1_bankOf 2 (some .int), Cond.fieldLink RX1 15 "CableFerry$Line" "banks" "[I"]
def wsX5_mixVehicles : List Cond := .code yX5_mixVehicles cX5_mixVehicles 8 (some .long) :: ((wsX5_mixVehicles_r1 ++ wsX5_mixVehicles_r2) ++ wsX50 ++ wsX30 ++ wsX10)
def wsX5_mixOutlook_r1 : List Cond := [Cond.methodLink RX5 351 yX5_why, Cond.instanceMethod yX5_why, Cond.selects RX5 yX5_why yX5_why, Cond.initialized RX5, Cond.code yX5_why cX5_why 1 (some .int), Cond.fieldLink RX5 10 "CableFerry" "now" "LCableFerry$State;", Cond.methodLink RX5 113 yX3_reason, Cond.instanceMethod yX3_reason, Cond.selects RX3 yX3_reason yX3_reason, Cond.initialized RX3, Cond.code yX3_reason cX3_reason 2 (some .int), Cond.fieldLink RX3 15 "CableFerry$State" "settings" "[I", Cond.fieldLink RX3 46 "CableFerry$State" "wire" "LCableFerry$Wire;", Cond.fieldLink RX3 124 "CableFerry$Wire" "slack" "I", Cond.methodLink RX3 109 yX3_list, Cond.instanceMethod yX3_list, Cond.selects RX3 yX3_list yX3_list, Cond.code yX3_list cX3_list 1 (some .int), Cond.fieldLink RX3 37 "CableFerry$State" "lane0" "LCableFerry$Line;", Cond.fieldLink RX3 40 "CableFerry$State" "lane1" "LCableFerry$Line;", Cond.methodLink RX3 86 Lib.Math.abs.name, Cond.static Lib.Math.abs.name, Cond.initialized "java/lang/Math", Cond.code Lib.Math.abs.name Lib.Math.abs.code 1 (some .int)]
def wsX5_mixOutlook_r2 : List Cond := [Cond.methodLink RX3 83 yX1_weight, Cond.instanceMethod yX1_weight, Cond.selects RX1 yX1_weight yX1_weight, Cond.initialized RX1, Cond.code yX1_weight cX1_weight 1 (some .int), Cond.fieldLink RX1 22 "CableFerry$Line" "weight" "I", Cond.static yX5_at, Cond.code yX5_at cX5_at 2 (some .int), Cond.methodLink RX3 103 yX3_currentAhead, Cond.instanceMethod yX3_currentAhead, Cond.selects RX3 yX3_currentAhead yX3_currentAhead, Cond.code yX3_currentAhead cX3_currentAhead 2 (some .int), Cond.fieldLink RX3 9 "CableFerry$State" "currents" "[I", Cond.fieldLink RX3 57 "CableFerry$State" "hours" "I", Cond.methodLink RX3 92 yJ9_floorMod_7cf53, Cond.static yJ9_floorMod_7cf53, Cond.initialized RJ9, Cond.code yJ9_floorMod_7cf53 cJ9_floorMod_7cf53 3 (some .int), Cond.methodLink RX3 106 yX3_weightOnDeck, Cond.instanceMethod yX3_weightOnDeck, Cond.selects RX3 yX3_weightOnDeck yX3_weightOnDeck, Cond.code yX3_weightOnDeck cX3_weightOnDeck 1 (some .int), Cond.methodLink RX3 127 yX4_canBear, Cond.instanceMethod yX4_canBear]
def wsX5_mixOutlook_r3 : List Cond := [Cond.selects RX4 yX4_canBear yX4_canBear, Cond.initialized RX4, Cond.code yX4_canBear cX4_canBear 6 (some .boolean), Cond.methodLink RX4 42 yX4_tensionOf, Cond.instanceMethod yX4_tensionOf, Cond.selects RX4 yX4_tensionOf yX4_tensionOf, Cond.code yX4_tensionOf cX4_tensionOf 7 (some .int), Cond.methodLink RX4 33 Lib.Math.min.name, Cond.static Lib.Math.min.name, Cond.code Lib.Math.min.name Lib.Math.min.code 2 (some .int), Cond.fieldLink RX4 15 "CableFerry$Wire" "slack" "I", Cond.methodLink RX4 39 Lib.Math.max.name, Cond.static Lib.Math.max.name, Cond.code Lib.Math.max.name Lib.Math.max.code 2 (some .int), Cond.methodLink RX4 46 yX4_strengthOf, Cond.instanceMethod yX4_strengthOf, Cond.selects RX4 yX4_strengthOf yX4_strengthOf, Cond.code yX4_strengthOf cX4_strengthOf 3 (some .int), Cond.fieldLink RX4 9 "CableFerry$Wire" "wears" "[I", Cond.methodLink RX5 298 yX5_mix, Cond.static yX5_mix, Cond.code yX5_mix cX5_mix 4 (some .long), Cond.constantLong RX5 337 (31), Cond.methodLink RX5 354 yX5_weakest]
def wsX5_mixOutlook_r4 : List Cond := [Cond.instanceMethod yX5_weakest, Cond.selects RX5 yX5_weakest yX5_weakest, Cond.code yX5_weakest cX5_weakest 5 (some .int), Cond.methodLink RX5 260 yX3_reserveOf, Cond.instanceMethod yX3_reserveOf, Cond.selects RX3 yX3_reserveOf yX3_reserveOf, Cond.code yX3_reserveOf cX3_reserveOf 2 (some .int), Cond.methodLink RX3 116 yX3_strengthOf, Cond.instanceMethod yX3_strengthOf, Cond.selects RX3 yX3_strengthOf yX3_strengthOf, Cond.code yX3_strengthOf cX3_strengthOf 2 (some .int), Cond.methodLink RX3 100 yX4_strengthOf, Cond.methodLink RX3 118 yX3_tensionOf, Cond.instanceMethod yX3_tensionOf, Cond.selects RX3 yX3_tensionOf yX3_tensionOf, Cond.code yX3_tensionOf cX3_tensionOf 2 (some .int), Cond.methodLink RX3 112 yX4_tensionOf, Cond.methodLink RX5 357 yX5_ifLoaded, Cond.instanceMethod yX5_ifLoaded, Cond.selects RX5 yX5_ifLoaded yX5_ifLoaded, Cond.code yX5_ifLoaded cX5_ifLoaded 2 (some .int), Cond.classLink RX5 44 "java/lang/IndexOutOfBoundsException", Cond.initialized "java/lang/IndexOutOfBoundsException", Cond.fieldLink RX5 16 "CableFerry" "trial" "LCableFerry$State;"]
def wsX5_mixOutlook_r5 : List Cond := [Cond.methodLink RX5 40 yX5_isWithin, Cond.static yX5_isWithin, Cond.code yX5_isWithin cX5_isWithin 3 (some .boolean), Cond.methodLink RX5 101 yX3_canDriveOn, Cond.instanceMethod yX3_canDriveOn, Cond.selects RX3 yX3_canDriveOn yX3_canDriveOn, Cond.code yX3_canDriveOn cX3_canDriveOn 2 (some .boolean), Cond.fieldLink RX3 61 "CableFerry$State" "ferryBank" "I", Cond.methodLink RX3 131 yX3_lineAtBank, Cond.instanceMethod yX3_lineAtBank, Cond.selects RX3 yX3_lineAtBank yX3_lineAtBank, Cond.code yX3_lineAtBank cX3_lineAtBank 2 (some (.object "CableFerry$Line")), Cond.fieldLink RX3 30 "CableFerry$State" "bank0" "LCableFerry$Line;", Cond.fieldLink RX3 34 "CableFerry$State" "bank1" "LCableFerry$Line;", Cond.methodLink RX3 79 yX1_size, Cond.instanceMethod yX1_size, Cond.selects RX1 yX1_size yX1_size, Cond.code yX1_size cX1_size 1 (some .int), Cond.fieldLink RX1 18 "CableFerry$Line" "size" "I", Cond.methodLink RX3 143 yX3_lineOnLane, Cond.instanceMethod yX3_lineOnLane, Cond.selects RX3 yX3_lineOnLane yX3_lineOnLane, Cond.code yX3_lineOnLane cX3_lineOnLane 2 (some (.object "CableFerry$Line")), Cond.methodLink RX3 135 yX1_isFull]
def wsX5_mixOutlook_r6 : List Cond := [Cond.instanceMethod yX1_isFull, Cond.selects RX1 yX1_isFull yX1_isFull, Cond.code yX1_isFull cX1_isFull 1 (some .boolean), Cond.fieldLink RX1 9 "CableFerry$Line" "weights" "[I", Cond.methodLink RX5 188 yX3_copyFrom, Cond.instanceMethod yX3_copyFrom, Cond.selects RX3 yX3_copyFrom yX3_copyFrom, Cond.code yX3_copyFrom cX3_copyFrom 2 none, Cond.fieldLink RX3 64 "CableFerry$State" "crossings" "I", Cond.fieldLink RX3 67 "CableFerry$State" "arrived" "I", Cond.fieldLink RX3 70 "CableFerry$State" "carried" "I", Cond.fieldLink RX3 73 "CableFerry$State" "turnedBack" "I", Cond.fieldLink RX3 76 "CableFerry$State" "hoursWaited" "I", Cond.static yX5_copyRow, Cond.code yX5_copyRow cX5_copyRow 2 none, Cond.methodLink RX5 313 Lib.Math.min.name, Cond.methodLink RX5 319 arraycopyName, Cond.native arraycopyName, Cond.static arraycopyName, Cond.initialized "java/lang/System", Cond.methodLink RX3 50 yX1_copyFrom, Cond.instanceMethod yX1_copyFrom, Cond.selects RX1 yX1_copyFrom yX1_copyFrom, Cond.code yX1_copyFrom cX1_copyFrom 2 none]
def wsX5_mixOutlook_r7 : List Cond := [Cond.fieldLink RX1 15 "CableFerry$Line" "banks" "[I", Cond.methodLink RX3 54 yX4_copyFrom, Cond.instanceMethod yX4_copyFrom, Cond.selects RX4 yX4_copyFrom yX4_copyFrom, Cond.code yX4_copyFrom cX4_copyFrom 2 none, Cond.fieldLink RX4 19 "CableFerry$Wire" "stretch" "I", Cond.fieldLink RX4 22 "CableFerry$Wire" "drum" "I", Cond.methodLink RX5 106 yX3_driveOn, Cond.instanceMethod yX3_driveOn, Cond.selects RX3 yX3_driveOn yX3_driveOn, Cond.code yX3_driveOn cX3_driveOn 4 (some .int), Cond.methodLink RX3 146 yX1_weightOf, Cond.instanceMethod yX1_weightOf, Cond.selects RX1 yX1_weightOf yX1_weightOf, Cond.code yX1_weightOf cX1_weightOf 2 (some .int), Cond.methodLink RX3 149 yX1_removeFirst, Cond.instanceMethod yX1_removeFirst, Cond.selects RX1 yX1_removeFirst yX1_removeFirst, Cond.code yX1_removeFirst cX1_removeFirst 2 none, Cond.static yX5_put, Cond.code yX5_put cX5_put 3 none, Cond.methodLink RX3 139 yX1_add, Cond.instanceMethod yX1_add, Cond.selects RX1 yX1_add yX1_add]
def wsX5_mixOutlook_r8 : List Cond := [Cond.code yX1_add cX1_add 3 none, Cond.methodLink RX1 33 yX1_isFull, Cond.methodLink RX5 263 yX3_greatestTension, Cond.instanceMethod yX3_greatestTension, Cond.selects RX3 yX3_greatestTension yX3_greatestTension, Cond.code yX3_greatestTension cX3_greatestTension 2 (some .int), Cond.methodLink RX3 120 yX4_greatestTension, Cond.instanceMethod yX4_greatestTension, Cond.selects RX4 yX4_greatestTension yX4_greatestTension, Cond.code yX4_greatestTension cX4_greatestTension 6 (some .int), Cond.methodLink RX5 360 yX5_bestHour, Cond.instanceMethod yX5_bestHour, Cond.selects RX5 yX5_bestHour yX5_bestHour, Cond.code yX5_bestHour cX5_bestHour 5 (some .int), Cond.methodLink RX5 363 yX5_leastList, Cond.instanceMethod yX5_leastList, Cond.selects RX5 yX5_leastList yX5_leastList, Cond.code yX5_leastList cX5_leastList 2 (some .int), Cond.classLink RX5 51 "java/lang/IllegalArgumentException", Cond.initialized "java/lang/IllegalArgumentException", Cond.methodLink RX5 268 yX3_leastListWith, Cond.instanceMethod yX3_leastListWith, Cond.selects RX3 yX3_leastListWith yX3_leastListWith, Cond.code yX3_leastListWith cX3_leastListWith 6 (some .int)]
def wsX5_mixOutlook_r9 : List Cond := [Cond.methodLink RX3 181 Lib.Math.min.name, Cond.methodLink RX3 174 yX3_hasRoomFor, Cond.instanceMethod yX3_hasRoomFor, Cond.selects RX3 yX3_hasRoomFor yX3_hasRoomFor, Cond.code yX3_hasRoomFor cX3_hasRoomFor 4 (some .boolean), Cond.methodLink RX3 184 yJ6_bitCount_0f7a4, Cond.static yJ6_bitCount_0f7a4, Cond.initialized RJ6, Cond.code yJ6_bitCount_0f7a4 cJ6_bitCount_0f7a4 1 (some .int), Cond.constant RJ6 265 (1431655765), Cond.constant RJ6 266 (858993459), Cond.constant RJ6 267 (252645135), Cond.methodLink RX3 178 yX3_listOf, Cond.instanceMethod yX3_listOf, Cond.selects RX3 yX3_listOf yX3_listOf, Cond.code yX3_listOf cX3_listOf 7 (some .int), Cond.methodLink RX5 366 yX5_lasts, Cond.instanceMethod yX5_lasts, Cond.selects RX5 yX5_lasts yX5_lasts, Cond.code yX5_lasts cX5_lasts 2 (some .int), Cond.methodLink RX5 118 yX3_crossRiver, Cond.instanceMethod yX3_crossRiver, Cond.selects RX3 yX3_crossRiver yX3_crossRiver, Cond.code yX3_crossRiver cX3_crossRiver 2 (some .int)]
def wsX5_mixOutlook_r10 : List Cond := [Cond.methodLink RX3 161 yX4_bear, Cond.instanceMethod yX4_bear, Cond.selects RX4 yX4_bear yX4_bear, Cond.code yX4_bear cX4_bear 9 none, Cond.methodLink RX3 165 yX3_letPass, Cond.instanceMethod yX3_letPass, Cond.selects RX3 yX3_letPass yX3_letPass, Cond.code yX3_letPass cX3_letPass 2 none, Cond.methodLink RX5 369 yX5_needed, Cond.instanceMethod yX5_needed, Cond.selects RX5 yX5_needed yX5_needed, Cond.code yX5_needed cX5_needed 2 (some .int), Cond.methodLink RX5 133 yX3_canDrawThrough, Cond.instanceMethod yX3_canDrawThrough, Cond.selects RX3 yX3_canDrawThrough yX3_canDrawThrough, Cond.code yX3_canDrawThrough cX3_canDrawThrough 2 (some .boolean), Cond.fieldLink RX3 168 "CableFerry$Wire" "drum" "I", Cond.methodLink RX5 138 yX3_drawThrough, Cond.instanceMethod yX3_drawThrough, Cond.selects RX3 yX3_drawThrough yX3_drawThrough, Cond.code yX3_drawThrough cX3_drawThrough 2 none, Cond.methodLink RX3 171 yX4_renew, Cond.instanceMethod yX4_renew, Cond.selects RX4 yX4_renew yX4_renew]
def wsX5_mixOutlook_r11 : List Cond := [Cond.code yX4_renew cX4_renew 3 none]
def wsX5_mixOutlook : List Cond := .code yX5_mixOutlook cX5_mixOutlook 6 (some .long) :: ((wsX5_mixOutlook_r1 ++ (wsX5_mixOutlook_r2 ++ (wsX5_mixOutlook_r3 ++ (wsX5_mixOutlook_r4 ++ (wsX5_mixOutlook_r5 ++ (wsX5_mixOutlook_r6 ++ (wsX5_mixOutlook_r7 ++ (wsX5_mixOutlook_r8 ++ (wsX5_mixOutlook_r9 ++ (wsX5_mixOutlook_r10 ++ wsX5_mixOutlook_r11)))))))))) ++ wsX50 ++ wsX30 ++ wsX40 ++ wsX10 ++ (vx_atS RX5 48 "java/lang/IndexOutOfBoundsException" ["java/lang/RuntimeException", "java/lang/Exception"]).filter goodWord ++ (vx_atS RX5 55 "java/lang/IllegalArgumentException" ["java/lang/RuntimeException", "java/lang/Exception"]).filter goodWord)
def wsX5_floatBits : List Cond := .code yX5_floatBits cX5_floatBits 3 (some .int) :: ([.constantFloat RX5 372 (1258291200)])
def wsX5_doubleBits : List Cond := .code yX5_doubleBits cX5_doubleBits 6 (some .long) :: ([.constantLong RX5 373 (1023), .constantDouble RX5 375 (4611686018427387904), .constantDouble RX5 377 (4841369599423283200)])
def wsX5_mixBuffer : List Cond := .code yX5_mixBuffer cX5_mixBuffer 6 (some .long) :: ([.fieldLink RX5 32 "CableFerry" "orders" "LCableFerry$Orders;", .methodLink RX5 165 yX2_length, .instanceMethod yX2_length, .selects RX2 yX2_length yX2_length, .initialized RX2, .code yX2_length cX2_length 1 (some .int), .fieldLink RX2 15 "CableFerry$Orders" "length" "I", .methodLink RX5 298 yX5_mix, .static yX5_mix, .initialized RX5, .code yX5_mix cX5_mix 4 (some .long), .constantLong RX5 337 (31), .methodLink RX5 334 yX2_codeAt, .instanceMethod yX2_codeAt, .selects RX2 yX2_codeAt yX2_codeAt, .code yX2_codeAt cX2_codeAt 2 (some .int), .fieldLink RX2 9 "CableFerry$Orders" "codes" "[I", .static yX5_at, .code yX5_at cX5_at 2 (some .int)] ++ wsX50 ++ wsX20)
def wsX5_digest_r1 : List Cond := [Cond.constantLong RX5 275 (3301), Cond.fieldLink RX5 36 "CableFerry" "hasSnapshot" "Z", Cond.methodLink RX5 277 yX5_mixCounts, Cond.instanceMethod yX5_mixCounts, Cond.selects RX5 yX5_mixCounts yX5_mixCounts, Cond.initialized RX5, Cond.code yX5_mixCounts cX5_mixCounts 6 (some .long), Cond.methodLink RX5 339 yX5_count, Cond.instanceMethod yX5_count, Cond.selects RX5 yX5_count yX5_count, Cond.code yX5_count cX5_count 2 (some .int), Cond.classLink RX5 51 "java/lang/IllegalArgumentException", Cond.initialized "java/lang/IllegalArgumentException", Cond.fieldLink RX5 10 "CableFerry" "now" "LCableFerry$State;", Cond.fieldLink RX5 127 "CableFerry$State" "hours" "I", Cond.fieldLink RX5 225 "CableFerry$State" "ferryBank" "I", Cond.fieldLink RX5 141 "CableFerry$State" "wire" "LCableFerry$Wire;", Cond.fieldLink RX5 237 "CableFerry$Wire" "slack" "I", Cond.fieldLink RX5 240 "CableFerry$Wire" "stretch" "I", Cond.fieldLink RX5 145 "CableFerry$Wire" "drum" "I", Cond.fieldLink RX5 243 "CableFerry$State" "crossings" "I", Cond.fieldLink RX5 246 "CableFerry$State" "arrived" "I", Cond.fieldLink RX5 249 "CableFerry$State" "carried" "I", Cond.fieldLink RX5 252 "CableFerry$State" "turnedBack" "I"]
def wsX5_digest_r2 : List Cond := [Cond.fieldLink RX5 255 "CableFerry$State" "hoursWaited" "I", Cond.fieldLink RX5 25 "CableFerry" "history" "LCableFerry$History;", Cond.methodLink RX5 228 yX3_vehiclesOnDeck, Cond.instanceMethod yX3_vehiclesOnDeck, Cond.selects RX3 yX3_vehiclesOnDeck yX3_vehiclesOnDeck, Cond.initialized RX3, Cond.code yX3_vehiclesOnDeck cX3_vehiclesOnDeck 1 (some .int), Cond.fieldLink RX3 37 "CableFerry$State" "lane0" "LCableFerry$Line;", Cond.fieldLink RX3 40 "CableFerry$State" "lane1" "LCableFerry$Line;", Cond.methodLink RX3 79 yX1_size, Cond.instanceMethod yX1_size, Cond.selects RX1 yX1_size yX1_size, Cond.initialized RX1, Cond.code yX1_size cX1_size 1 (some .int), Cond.fieldLink RX1 18 "CableFerry$Line" "size" "I", Cond.methodLink RX5 231 yX3_weightOnDeck, Cond.instanceMethod yX3_weightOnDeck, Cond.selects RX3 yX3_weightOnDeck yX3_weightOnDeck, Cond.code yX3_weightOnDeck cX3_weightOnDeck 1 (some .int), Cond.methodLink RX3 83 yX1_weight, Cond.instanceMethod yX1_weight, Cond.selects RX1 yX1_weight yX1_weight, Cond.code yX1_weight cX1_weight 1 (some .int), Cond.fieldLink RX1 22 "CableFerry$Line" "weight" "I"]
def wsX5_digest_r3 : List Cond := [Cond.methodLink RX5 234 yX3_list, Cond.instanceMethod yX3_list, Cond.selects RX3 yX3_list yX3_list, Cond.code yX3_list cX3_list 1 (some .int), Cond.methodLink RX3 86 Lib.Math.abs.name, Cond.static Lib.Math.abs.name, Cond.initialized "java/lang/Math", Cond.code Lib.Math.abs.name Lib.Math.abs.code 1 (some .int), Cond.methodLink RX5 193 yX0_size, Cond.instanceMethod yX0_size, Cond.selects RX0 yX0_size yX0_size, Cond.initialized RX0, Cond.code yX0_size cX0_size 1 (some .int), Cond.fieldLink RX0 22 "CableFerry$History" "size" "I", Cond.methodLink RX5 298 yX5_mix, Cond.static yX5_mix, Cond.code yX5_mix cX5_mix 4 (some .long), Cond.constantLong RX5 337 (31), Cond.methodLink RX5 281 yX5_mixRiverAndWire, Cond.instanceMethod yX5_mixRiverAndWire, Cond.selects RX5 yX5_mixRiverAndWire yX5_mixRiverAndWire, Cond.code yX5_mixRiverAndWire cX5_mixRiverAndWire 7 (some .long), Cond.methodLink RX5 342 yX5_setting, Cond.instanceMethod yX5_setting]
def wsX5_digest_r4 : List Cond := [Cond.selects RX5 yX5_setting yX5_setting, Cond.code yX5_setting cX5_setting 2 (some .int), Cond.classLink RX5 44 "java/lang/IndexOutOfBoundsException", Cond.initialized "java/lang/IndexOutOfBoundsException", Cond.fieldLink RX5 160 "CableFerry$State" "settings" "[I", Cond.methodLink RX5 40 yX5_isWithin, Cond.static yX5_isWithin, Cond.code yX5_isWithin cX5_isWithin 3 (some .boolean), Cond.methodLink RX5 64 yX5_at, Cond.static yX5_at, Cond.code yX5_at cX5_at 2 (some .int), Cond.methodLink RX5 345 yX5_currentOf, Cond.instanceMethod yX5_currentOf, Cond.selects RX5 yX5_currentOf yX5_currentOf, Cond.code yX5_currentOf cX5_currentOf 2 (some .int), Cond.fieldLink RX5 60 "CableFerry$State" "currents" "[I", Cond.methodLink RX5 348 yX5_section, Cond.instanceMethod yX5_section, Cond.selects RX5 yX5_section yX5_section, Cond.code yX5_section cX5_section 3 (some .int), Cond.methodLink RX5 201 yX4_wearOf, Cond.instanceMethod yX4_wearOf, Cond.selects RX4 yX4_wearOf yX4_wearOf, Cond.initialized RX4]
def wsX5_digest_r5 : List Cond := [Cond.code yX4_wearOf cX4_wearOf 2 (some .int), Cond.fieldLink RX4 9 "CableFerry$Wire" "wears" "[I", Cond.methodLink RX5 204 yX3_strengthOf, Cond.instanceMethod yX3_strengthOf, Cond.selects RX3 yX3_strengthOf yX3_strengthOf, Cond.code yX3_strengthOf cX3_strengthOf 2 (some .int), Cond.fieldLink RX3 46 "CableFerry$State" "wire" "LCableFerry$Wire;", Cond.fieldLink RX3 15 "CableFerry$State" "settings" "[I", Cond.methodLink RX3 100 yX4_strengthOf, Cond.instanceMethod yX4_strengthOf, Cond.selects RX4 yX4_strengthOf yX4_strengthOf, Cond.code yX4_strengthOf cX4_strengthOf 3 (some .int), Cond.methodLink RX4 39 Lib.Math.max.name, Cond.static Lib.Math.max.name, Cond.code Lib.Math.max.name Lib.Math.max.code 2 (some .int), Cond.methodLink RX5 207 yX3_tensionOf, Cond.instanceMethod yX3_tensionOf, Cond.selects RX3 yX3_tensionOf yX3_tensionOf, Cond.code yX3_tensionOf cX3_tensionOf 2 (some .int), Cond.methodLink RX3 103 yX3_currentAhead, Cond.instanceMethod yX3_currentAhead, Cond.selects RX3 yX3_currentAhead yX3_currentAhead, Cond.code yX3_currentAhead cX3_currentAhead 2 (some .int), Cond.fieldLink RX3 9 "CableFerry$State" "currents" "[I"]
def wsX5_digest_r6 : List Cond := [Cond.fieldLink RX3 57 "CableFerry$State" "hours" "I", Cond.methodLink RX3 92 yJ9_floorMod_7cf53, Cond.static yJ9_floorMod_7cf53, Cond.initialized RJ9, Cond.code yJ9_floorMod_7cf53 cJ9_floorMod_7cf53 3 (some .int), Cond.methodLink RX3 106 yX3_weightOnDeck, Cond.methodLink RX3 109 yX3_list, Cond.methodLink RX3 112 yX4_tensionOf, Cond.instanceMethod yX4_tensionOf, Cond.selects RX4 yX4_tensionOf yX4_tensionOf, Cond.code yX4_tensionOf cX4_tensionOf 7 (some .int), Cond.methodLink RX4 33 Lib.Math.min.name, Cond.static Lib.Math.min.name, Cond.code Lib.Math.min.name Lib.Math.min.code 2 (some .int), Cond.fieldLink RX4 15 "CableFerry$Wire" "slack" "I", Cond.methodLink RX5 284 yX5_mixVehicles, Cond.instanceMethod yX5_mixVehicles, Cond.selects RX5 yX5_mixVehicles yX5_mixVehicles, Cond.code yX5_mixVehicles cX5_mixVehicles 8 (some .long), Cond.methodLink RX5 89 yX3_lineAtBank, Cond.instanceMethod yX3_lineAtBank, Cond.selects RX3 yX3_lineAtBank yX3_lineAtBank, Cond.code yX3_lineAtBank cX3_lineAtBank 2 (some (.object "CableFerry$Line")), Cond.fieldLink RX3 30 "CableFerry$State" "bank0" "LCableFerry$Line;"]
def wsX5_digest_r7 : List Cond := [Cond.fieldLink RX3 34 "CableFerry$State" "bank1" "LCableFerry$Line;", Cond.methodLink RX5 93 yX1_size, Cond.methodLink RX5 214 yX1_weightOf, Cond.instanceMethod yX1_weightOf, Cond.selects RX1 yX1_weightOf yX1_weightOf, Cond.code yX1_weightOf cX1_weightOf 2 (some .int), Cond.fieldLink RX1 9 "CableFerry$Line" "weights" "[I", Cond.methodLink RX5 219 yX3_lineOnLane, Cond.instanceMethod yX3_lineOnLane, Cond.selects RX3 yX3_lineOnLane yX3_lineOnLane, Cond.code yX3_lineOnLane cX3_lineOnLane 2 (some (.object "CableFerry$Line")), Cond.methodLink RX5 222 yX1_bankOf, Cond.instanceMethod yX1_bankOf, Cond.selects RX1 yX1_bankOf yX1_bankOf, Cond.code yX1_bankOf cX1_bankOf 2 (some .int), Cond.fieldLink RX1 15 "CableFerry$Line" "banks" "[I", Cond.methodLink RX5 287 yX5_mixOutlook, Cond.instanceMethod yX5_mixOutlook, Cond.selects RX5 yX5_mixOutlook yX5_mixOutlook, Cond.code yX5_mixOutlook cX5_mixOutlook 6 (some .long), Cond.methodLink RX5 351 yX5_why, Cond.instanceMethod yX5_why, Cond.selects RX5 yX5_why yX5_why, Cond.code yX5_why cX5_why 1 (some .int)]
def wsX5_digest_r8 : List Cond := [Cond.methodLink RX5 113 yX3_reason, Cond.instanceMethod yX3_reason, Cond.selects RX3 yX3_reason yX3_reason, Cond.code yX3_reason cX3_reason 2 (some .int), Cond.fieldLink RX3 124 "CableFerry$Wire" "slack" "I", Cond.methodLink RX3 127 yX4_canBear, Cond.instanceMethod yX4_canBear, Cond.selects RX4 yX4_canBear yX4_canBear, Cond.code yX4_canBear cX4_canBear 6 (some .boolean), Cond.methodLink RX4 42 yX4_tensionOf, Cond.methodLink RX4 46 yX4_strengthOf, Cond.methodLink RX5 354 yX5_weakest, Cond.instanceMethod yX5_weakest, Cond.selects RX5 yX5_weakest yX5_weakest, Cond.code yX5_weakest cX5_weakest 5 (some .int), Cond.methodLink RX5 260 yX3_reserveOf, Cond.instanceMethod yX3_reserveOf, Cond.selects RX3 yX3_reserveOf yX3_reserveOf, Cond.code yX3_reserveOf cX3_reserveOf 2 (some .int), Cond.methodLink RX3 116 yX3_strengthOf, Cond.methodLink RX3 118 yX3_tensionOf, Cond.methodLink RX5 357 yX5_ifLoaded, Cond.instanceMethod yX5_ifLoaded, Cond.selects RX5 yX5_ifLoaded yX5_ifLoaded]
def wsX5_digest_r9 : List Cond := [Cond.code yX5_ifLoaded cX5_ifLoaded 2 (some .int), Cond.fieldLink RX5 16 "CableFerry" "trial" "LCableFerry$State;", Cond.methodLink RX5 101 yX3_canDriveOn, Cond.instanceMethod yX3_canDriveOn, Cond.selects RX3 yX3_canDriveOn yX3_canDriveOn, Cond.code yX3_canDriveOn cX3_canDriveOn 2 (some .boolean), Cond.fieldLink RX3 61 "CableFerry$State" "ferryBank" "I", Cond.methodLink RX3 131 yX3_lineAtBank, Cond.methodLink RX3 143 yX3_lineOnLane, Cond.methodLink RX3 135 yX1_isFull, Cond.instanceMethod yX1_isFull, Cond.selects RX1 yX1_isFull yX1_isFull, Cond.code yX1_isFull cX1_isFull 1 (some .boolean), Cond.methodLink RX5 188 yX3_copyFrom, Cond.instanceMethod yX3_copyFrom, Cond.selects RX3 yX3_copyFrom yX3_copyFrom, Cond.code yX3_copyFrom cX3_copyFrom 2 none, Cond.fieldLink RX3 64 "CableFerry$State" "crossings" "I", Cond.fieldLink RX3 67 "CableFerry$State" "arrived" "I", Cond.fieldLink RX3 70 "CableFerry$State" "carried" "I", Cond.fieldLink RX3 73 "CableFerry$State" "turnedBack" "I", Cond.fieldLink RX3 76 "CableFerry$State" "hoursWaited" "I", Cond.static yX5_copyRow, Cond.code yX5_copyRow cX5_copyRow 2 none]
def wsX5_digest_r10 : List Cond := [Cond.methodLink RX5 313 Lib.Math.min.name, Cond.methodLink RX5 319 arraycopyName, Cond.native arraycopyName, Cond.static arraycopyName, Cond.initialized "java/lang/System", Cond.methodLink RX3 50 yX1_copyFrom, Cond.instanceMethod yX1_copyFrom, Cond.selects RX1 yX1_copyFrom yX1_copyFrom, Cond.code yX1_copyFrom cX1_copyFrom 2 none, Cond.methodLink RX3 54 yX4_copyFrom, Cond.instanceMethod yX4_copyFrom, Cond.selects RX4 yX4_copyFrom yX4_copyFrom, Cond.code yX4_copyFrom cX4_copyFrom 2 none, Cond.fieldLink RX4 19 "CableFerry$Wire" "stretch" "I", Cond.fieldLink RX4 22 "CableFerry$Wire" "drum" "I", Cond.methodLink RX5 106 yX3_driveOn, Cond.instanceMethod yX3_driveOn, Cond.selects RX3 yX3_driveOn yX3_driveOn, Cond.code yX3_driveOn cX3_driveOn 4 (some .int), Cond.methodLink RX3 146 yX1_weightOf, Cond.methodLink RX3 149 yX1_removeFirst, Cond.instanceMethod yX1_removeFirst, Cond.selects RX1 yX1_removeFirst yX1_removeFirst, Cond.code yX1_removeFirst cX1_removeFirst 2 none]
def wsX5_digest_r11 : List Cond := [Cond.static yX5_put, Cond.code yX5_put cX5_put 3 none, Cond.methodLink RX3 139 yX1_add, Cond.instanceMethod yX1_add, Cond.selects RX1 yX1_add yX1_add, Cond.code yX1_add cX1_add 3 none, Cond.methodLink RX1 33 yX1_isFull, Cond.methodLink RX5 263 yX3_greatestTension, Cond.instanceMethod yX3_greatestTension, Cond.selects RX3 yX3_greatestTension yX3_greatestTension, Cond.code yX3_greatestTension cX3_greatestTension 2 (some .int), Cond.methodLink RX3 120 yX4_greatestTension, Cond.instanceMethod yX4_greatestTension, Cond.selects RX4 yX4_greatestTension yX4_greatestTension, Cond.code yX4_greatestTension cX4_greatestTension 6 (some .int), Cond.methodLink RX5 360 yX5_bestHour, Cond.instanceMethod yX5_bestHour, Cond.selects RX5 yX5_bestHour yX5_bestHour, Cond.code yX5_bestHour cX5_bestHour 5 (some .int), Cond.methodLink RX5 363 yX5_leastList, Cond.instanceMethod yX5_leastList, Cond.selects RX5 yX5_leastList yX5_leastList, Cond.code yX5_leastList cX5_leastList 2 (some .int), Cond.methodLink RX5 268 yX3_leastListWith]
def wsX5_digest_r12 : List Cond := [Cond.instanceMethod yX3_leastListWith, Cond.selects RX3 yX3_leastListWith yX3_leastListWith, Cond.code yX3_leastListWith cX3_leastListWith 6 (some .int), Cond.methodLink RX3 181 Lib.Math.min.name, Cond.methodLink RX3 174 yX3_hasRoomFor, Cond.instanceMethod yX3_hasRoomFor, Cond.selects RX3 yX3_hasRoomFor yX3_hasRoomFor, Cond.code yX3_hasRoomFor cX3_hasRoomFor 4 (some .boolean), Cond.methodLink RX3 184 yJ6_bitCount_0f7a4, Cond.static yJ6_bitCount_0f7a4, Cond.initialized RJ6, Cond.code yJ6_bitCount_0f7a4 cJ6_bitCount_0f7a4 1 (some .int), Cond.constant RJ6 265 (1431655765), Cond.constant RJ6 266 (858993459), Cond.constant RJ6 267 (252645135), Cond.methodLink RX3 178 yX3_listOf, Cond.instanceMethod yX3_listOf, Cond.selects RX3 yX3_listOf yX3_listOf, Cond.code yX3_listOf cX3_listOf 7 (some .int), Cond.methodLink RX5 366 yX5_lasts, Cond.instanceMethod yX5_lasts, Cond.selects RX5 yX5_lasts yX5_lasts, Cond.code yX5_lasts cX5_lasts 2 (some .int), Cond.methodLink RX5 118 yX3_crossRiver]
def wsX5_digest_r13 : List Cond := [Cond.instanceMethod yX3_crossRiver, Cond.selects RX3 yX3_crossRiver yX3_crossRiver, Cond.code yX3_crossRiver cX3_crossRiver 2 (some .int), Cond.methodLink RX3 161 yX4_bear, Cond.instanceMethod yX4_bear, Cond.selects RX4 yX4_bear yX4_bear, Cond.code yX4_bear cX4_bear 9 none, Cond.methodLink RX3 165 yX3_letPass, Cond.instanceMethod yX3_letPass, Cond.selects RX3 yX3_letPass yX3_letPass, Cond.code yX3_letPass cX3_letPass 2 none, Cond.methodLink RX5 369 yX5_needed, Cond.instanceMethod yX5_needed, Cond.selects RX5 yX5_needed yX5_needed, Cond.code yX5_needed cX5_needed 2 (some .int), Cond.methodLink RX5 133 yX3_canDrawThrough, Cond.instanceMethod yX3_canDrawThrough, Cond.selects RX3 yX3_canDrawThrough yX3_canDrawThrough, Cond.code yX3_canDrawThrough cX3_canDrawThrough 2 (some .boolean), Cond.fieldLink RX3 168 "CableFerry$Wire" "drum" "I", Cond.methodLink RX5 138 yX3_drawThrough, Cond.instanceMethod yX3_drawThrough, Cond.selects RX3 yX3_drawThrough yX3_drawThrough, Cond.code yX3_drawThrough cX3_drawThrough 2 none]
def wsX5_digest_r14 : List Cond := [Cond.methodLink RX3 171 yX4_renew, Cond.instanceMethod yX4_renew, Cond.selects RX4 yX4_renew yX4_renew, Cond.code yX4_renew cX4_renew 3 none, Cond.methodLink RX5 290 yX5_wornShare, Cond.instanceMethod yX5_wornShare, Cond.selects RX5 yX5_wornShare yX5_wornShare, Cond.code yX5_wornShare cX5_wornShare 1 (some .float), Cond.constantFloat RX5 274 (1184645120), Cond.methodLink RX5 271 yX4_wearTogether, Cond.instanceMethod yX4_wearTogether, Cond.selects RX4 yX4_wearTogether yX4_wearTogether, Cond.code yX4_wearTogether cX4_wearTogether 3 (some .int), Cond.methodLink RX5 294 yX5_floatBits, Cond.static yX5_floatBits, Cond.code yX5_floatBits cX5_floatBits 3 (some .int), Cond.constantFloat RX5 372 (1258291200), Cond.methodLink RX5 302 yX5_carriedShare, Cond.instanceMethod yX5_carriedShare, Cond.selects RX5 yX5_carriedShare yX5_carriedShare, Cond.code yX5_carriedShare cX5_carriedShare 2 (some .double), Cond.methodLink RX5 306 yX5_doubleBits, Cond.static yX5_doubleBits, Cond.code yX5_doubleBits cX5_doubleBits 6 (some .long)]
def wsX5_digest_r15 : List Cond := [Cond.constantLong RX5 373 (1023), Cond.constantDouble RX5 375 (4611686018427387904), Cond.constantDouble RX5 377 (4841369599423283200), Cond.methodLink RX5 310 yX5_mixBuffer, Cond.instanceMethod yX5_mixBuffer, Cond.selects RX5 yX5_mixBuffer yX5_mixBuffer, Cond.code yX5_mixBuffer cX5_mixBuffer 6 (some .long), Cond.fieldLink RX5 32 "CableFerry" "orders" "LCableFerry$Orders;", Cond.methodLink RX5 165 yX2_length, Cond.instanceMethod yX2_length, Cond.selects RX2 yX2_length yX2_length, Cond.initialized RX2, Cond.code yX2_length cX2_length 1 (some .int), Cond.fieldLink RX2 15 "CableFerry$Orders" "length" "I", Cond.methodLink RX5 334 yX2_codeAt, Cond.instanceMethod yX2_codeAt, Cond.selects RX2 yX2_codeAt yX2_codeAt, Cond.code yX2_codeAt cX2_codeAt 2 (some .int), Cond.fieldLink RX2 9 "CableFerry$Orders" "codes" "[I"]
def wsX5_digest : List Cond := .code yX5_digest cX5_digest 3 (some .long) :: ((wsX5_digest_r1 ++ (wsX5_digest_r2 ++ (wsX5_digest_r3 ++ (wsX5_digest_r4 ++ (wsX5_digest_r5 ++ (wsX5_digest_r6 ++ (wsX5_digest_r7 ++ (wsX5_digest_r8 ++ (wsX5_digest_r9 ++ (wsX5_digest_r10 ++ (wsX5_digest_r11 ++ (wsX5_digest_r12 ++ (wsX5_digest_r13 ++ (wsX5_digest_r14 ++ wsX5_digest_r15)))))))))))))) ++ wsX50 ++ wsX30 ++ wsX40 ++ wsX10 ++ wsX00 ++ wsX20 ++ (vx_atS RX5 55 "java/lang/IllegalArgumentException" ["java/lang/RuntimeException", "java/lang/Exception"]).filter goodWord ++ (vx_atS RX5 48 "java/lang/IndexOutOfBoundsException" ["java/lang/RuntimeException", "java/lang/Exception"]).filter goodWord)
def wsJ9_abs_0f7a4 : List Cond := .code yJ9_abs_0f7a4 cJ9_abs_0f7a4 1 (some .int) :: ([])
def wsJ9_max_7cf53 : List Cond := .code yJ9_max_7cf53 cJ9_max_7cf53 2 (some .int) :: ([])
def wsJ9_min_7cf53 : List Cond := .code yJ9_min_7cf53 cJ9_min_7cf53 2 (some .int) :: ([])
set_option maxRecDepth 20000 in
theorem ggX0_init_X3_init : GoodIn wsX0_init wsX3_init := goodIn_r _ [12, 13, 2, 3, 14, 15, 16, 17, 18, 19, 20, 21, 22, 23, 24, 25, 26, 27, 28, 29, 30, 31, 32, 33, 34, 35, 36, 37, 38, 39, 40, 41, 42, 43, 44, 45, 46, 47, 48, 49, 50, 51, 52, 53, 54, 58, 59, 60, 61, 62, 63, 64, 65, 66, 67, 68, 69, 70, 71, 72, 73, 74, 75, 76, 77, 78, 79] (by decide +kernel) (by decide +kernel)
set_option maxRecDepth 20000 in
theorem gX0_init_X3_init : GoodIn wsX0_init (wsX3_init) := ggX0_init_X3_init
theorem dX0_init_0 : decode cX0_init 0 = .ok (.aload_n 0, 1) := by decide +kernel
theorem dX0_init_1 : decode cX0_init 1 = .ok (.invokespecial 3, 3) := by decide +kernel
theorem dX0_init_4 : decode cX0_init 4 = .ok (.aload_n 0, 1) := by decide +kernel
theorem dX0_init_5 : decode cX0_init 5 = .ok (.bipush 6, 2) := by decide +kernel
theorem dX0_init_7 : decode cX0_init 7 = .ok (.anewarray 9, 3) := by decide +kernel
theorem dX0_init_10 : decode cX0_init 10 = .ok (.putfield 11, 3) := by decide +kernel
theorem dX0_init_13 : decode cX0_init 13 = .ok (.iconst 0, 1) := by decide +kernel
theorem dX0_init_14 : decode cX0_init 14 = .ok (.istore_n 1, 1) := by decide +kernel
theorem dX0_init_15 : decode cX0_init 15 = .ok (.iload_n 1, 1) := by decide +kernel
theorem dX0_init_16 : decode cX0_init 16 = .ok (.aload_n 0, 1) := by decide +kernel
theorem dX0_init_17 : decode cX0_init 17 = .ok (.getfield 11, 3) := by decide +kernel
theorem dX0_init_20 : decode cX0_init 20 = .ok (.arraylength, 1) := by decide +kernel
theorem dX0_init_21 : decode cX0_init 21 = .ok (.if_icmp .ge 22, 3) := by decide +kernel
theorem dX0_init_24 : decode cX0_init 24 = .ok (.aload_n 0, 1) := by decide +kernel
theorem dX0_init_25 : decode cX0_init 25 = .ok (.getfield 11, 3) := by decide +kernel
theorem dX0_init_28 : decode cX0_init 28 = .ok (.iload_n 1, 1) := by decide +kernel
theorem dX0_init_29 : decode cX0_init 29 = .ok (.new 9, 3) := by decide +kernel
theorem dX0_init_32 : decode cX0_init 32 = .ok (.dup, 1) := by decide +kernel
theorem dX0_init_33 : decode cX0_init 33 = .ok (.invokespecial 17, 3) := by decide +kernel
theorem dX0_init_36 : decode cX0_init 36 = .ok (.aastore, 1) := by decide +kernel
theorem dX0_init_37 : decode cX0_init 37 = .ok (.iinc 1 1, 3) := by decide +kernel
theorem dX0_init_40 : decode cX0_init 40 = .ok (.goto (-25), 3) := by decide +kernel
theorem dX0_init_43 : decode cX0_init 43 = .ok (.aload_n 0, 1) := by decide +kernel
theorem dX0_init_44 : decode cX0_init 44 = .ok (.iconst 0, 1) := by decide +kernel
theorem dX0_init_45 : decode cX0_init 45 = .ok (.putfield 18, 3) := by decide +kernel
theorem dX0_init_48 : decode cX0_init 48 = .ok (.aload_n 0, 1) := by decide +kernel
theorem dX0_init_49 : decode cX0_init 49 = .ok (.iconst 0, 1) := by decide +kernel
theorem dX0_init_50 : decode cX0_init 50 = .ok (.putfield 22, 3) := by decide +kernel
theorem dX0_init_53 : decode cX0_init 53 = .ok (.return_, 1) := by decide +kernel
theorem dX0_size_0 : decode cX0_size 0 = .ok (.aload_n 0, 1) := by decide +kernel
theorem dX0_size_1 : decode cX0_size 1 = .ok (.getfield 22, 3) := by decide +kernel
theorem dX0_size_4 : decode cX0_size 4 = .ok (.ireturn, 1) := by decide +kernel
set_option maxRecDepth 20000 in
theorem ggX0_save_X0_placeOf : GoodIn wsX0_save wsX0_placeOf := goodIn_r _ [7, 2, 8, 9, 10, 11, 12, 61, 62, 63] (by decide +kernel) (by decide +kernel)
set_option maxRecDepth 20000 in
theorem gX0_save_X0_placeOf : GoodIn wsX0_save (wsV RX0 25 RX0 yX0_placeOf wsX0_placeOf) := goodIn_app (goodIn_of _ (by decide +kernel)) ggX0_save_X0_placeOf
set_option maxRecDepth 20000 in
theorem ggX0_save_X3_copyFrom : GoodIn wsX0_save wsX3_copyFrom := goodIn_r _ [17, 18, 19, 20, 21, 22, 23, 24, 25, 26, 27, 28, 29, 30, 31, 32, 33, 34, 35, 36, 37, 38, 39, 40, 41, 42, 43, 44, 45, 46, 47, 48, 49, 50, 51, 52, 53, 54, 55, 56, 57, 58, 59, 60, 64, 65, 66, 67, 68, 69, 70, 71, 72, 73, 74, 75, 76, 77, 78, 79, 80, 81, 82, 83, 84, 85] (by decide +kernel) (by decide +kernel)
set_option maxRecDepth 20000 in
theorem gX0_save_X3_copyFrom : GoodIn wsX0_save (wsV RX0 29 RX3 yX3_copyFrom wsX3_copyFrom) := goodIn_app (goodIn_of _ (by decide +kernel)) ggX0_save_X3_copyFrom
theorem dX0_save_0 : decode cX0_save 0 = .ok (.aload_n 0, 1) := by decide +kernel
theorem dX0_save_1 : decode cX0_save 1 = .ok (.getfield 22, 3) := by decide +kernel
theorem dX0_save_4 : decode cX0_save 4 = .ok (.bipush 6, 2) := by decide +kernel
theorem dX0_save_6 : decode cX0_save 6 = .ok (.if_icmp .ne 26, 3) := by decide +kernel
theorem dX0_save_9 : decode cX0_save 9 = .ok (.aload_n 0, 1) := by decide +kernel
theorem dX0_save_10 : decode cX0_save 10 = .ok (.aload_n 0, 1) := by decide +kernel
theorem dX0_save_11 : decode cX0_save 11 = .ok (.getfield 18, 3) := by decide +kernel
theorem dX0_save_14 : decode cX0_save 14 = .ok (.iconst 1, 1) := by decide +kernel
theorem dX0_save_15 : decode cX0_save 15 = .ok (.iadd, 1) := by decide +kernel
theorem dX0_save_16 : decode cX0_save 16 = .ok (.bipush 6, 2) := by decide +kernel
theorem dX0_save_18 : decode cX0_save 18 = .ok (.irem, 1) := by decide +kernel
theorem dX0_save_19 : decode cX0_save 19 = .ok (.putfield 18, 3) := by decide +kernel
theorem dX0_save_22 : decode cX0_save 22 = .ok (.aload_n 0, 1) := by decide +kernel
theorem dX0_save_23 : decode cX0_save 23 = .ok (.dup, 1) := by decide +kernel
theorem dX0_save_24 : decode cX0_save 24 = .ok (.getfield 22, 3) := by decide +kernel
theorem dX0_save_27 : decode cX0_save 27 = .ok (.iconst 1, 1) := by decide +kernel
theorem dX0_save_28 : decode cX0_save 28 = .ok (.isub, 1) := by decide +kernel
theorem dX0_save_29 : decode cX0_save 29 = .ok (.putfield 22, 3) := by decide +kernel
theorem dX0_save_32 : decode cX0_save 32 = .ok (.aload_n 0, 1) := by decide +kernel
theorem dX0_save_33 : decode cX0_save 33 = .ok (.aload_n 0, 1) := by decide +kernel
theorem dX0_save_34 : decode cX0_save 34 = .ok (.getfield 22, 3) := by decide +kernel
theorem dX0_save_37 : decode cX0_save 37 = .ok (.invokevirtual 25, 3) := by decide +kernel
theorem dX0_save_40 : decode cX0_save 40 = .ok (.astore_n 2, 1) := by decide +kernel
theorem dX0_save_41 : decode cX0_save 41 = .ok (.aload_n 2, 1) := by decide +kernel
theorem dX0_save_42 : decode cX0_save 42 = .ok (.ifnull 18, 3) := by decide +kernel
theorem dX0_save_45 : decode cX0_save 45 = .ok (.aload_n 2, 1) := by decide +kernel
theorem dX0_save_46 : decode cX0_save 46 = .ok (.aload_n 1, 1) := by decide +kernel
theorem dX0_save_47 : decode cX0_save 47 = .ok (.invokevirtual 29, 3) := by decide +kernel
theorem dX0_save_50 : decode cX0_save 50 = .ok (.aload_n 0, 1) := by decide +kernel
theorem dX0_save_51 : decode cX0_save 51 = .ok (.dup, 1) := by decide +kernel
theorem dX0_save_52 : decode cX0_save 52 = .ok (.getfield 22, 3) := by decide +kernel
theorem dX0_save_55 : decode cX0_save 55 = .ok (.iconst 1, 1) := by decide +kernel
theorem dX0_save_56 : decode cX0_save 56 = .ok (.iadd, 1) := by decide +kernel
theorem dX0_save_57 : decode cX0_save 57 = .ok (.putfield 22, 3) := by decide +kernel
theorem dX0_save_60 : decode cX0_save 60 = .ok (.return_, 1) := by decide +kernel
set_option maxRecDepth 20000 in
theorem ggX0_restore_X0_placeOf : GoodIn wsX0_restore wsX0_placeOf := goodIn_r _ [6, 7, 8, 9, 10, 11, 12, 61, 62, 63] (by decide +kernel) (by decide +kernel)
set_option maxRecDepth 20000 in
theorem gX0_restore_X0_placeOf : GoodIn wsX0_restore (wsV RX0 25 RX0 yX0_placeOf wsX0_placeOf) := goodIn_app (goodIn_of _ (by decide +kernel)) ggX0_restore_X0_placeOf
set_option maxRecDepth 20000 in
theorem ggX0_restore_X3_copyFrom : GoodIn wsX0_restore wsX3_copyFrom := goodIn_r _ [17, 18, 19, 20, 21, 22, 23, 24, 25, 26, 27, 28, 29, 30, 31, 32, 33, 34, 35, 36, 37, 38, 39, 40, 41, 42, 43, 44, 45, 46, 47, 48, 49, 50, 51, 52, 53, 54, 55, 56, 57, 58, 59, 60, 64, 65, 66, 67, 68, 69, 70, 71, 72, 73, 74, 75, 76, 77, 78, 79, 80, 81, 82, 83, 84, 85] (by decide +kernel) (by decide +kernel)
set_option maxRecDepth 20000 in
theorem gX0_restore_X3_copyFrom : GoodIn wsX0_restore (wsV RX0 29 RX3 yX3_copyFrom wsX3_copyFrom) := goodIn_app (goodIn_of _ (by decide +kernel)) ggX0_restore_X3_copyFrom
theorem dX0_restore_0 : decode cX0_restore 0 = .ok (.aload_n 0, 1) := by decide +kernel
theorem dX0_restore_1 : decode cX0_restore 1 = .ok (.aload_n 0, 1) := by decide +kernel
theorem dX0_restore_2 : decode cX0_restore 2 = .ok (.getfield 22, 3) := by decide +kernel
theorem dX0_restore_5 : decode cX0_restore 5 = .ok (.iconst 1, 1) := by decide +kernel
theorem dX0_restore_6 : decode cX0_restore 6 = .ok (.isub, 1) := by decide +kernel
theorem dX0_restore_7 : decode cX0_restore 7 = .ok (.invokevirtual 25, 3) := by decide +kernel
theorem dX0_restore_10 : decode cX0_restore 10 = .ok (.astore_n 2, 1) := by decide +kernel
theorem dX0_restore_11 : decode cX0_restore 11 = .ok (.aload_n 2, 1) := by decide +kernel
theorem dX0_restore_12 : decode cX0_restore 12 = .ok (.ifnull 18, 3) := by decide +kernel
theorem dX0_restore_15 : decode cX0_restore 15 = .ok (.aload_n 1, 1) := by decide +kernel
theorem dX0_restore_16 : decode cX0_restore 16 = .ok (.aload_n 2, 1) := by decide +kernel
theorem dX0_restore_17 : decode cX0_restore 17 = .ok (.invokevirtual 29, 3) := by decide +kernel
theorem dX0_restore_20 : decode cX0_restore 20 = .ok (.aload_n 0, 1) := by decide +kernel
theorem dX0_restore_21 : decode cX0_restore 21 = .ok (.dup, 1) := by decide +kernel
theorem dX0_restore_22 : decode cX0_restore 22 = .ok (.getfield 22, 3) := by decide +kernel
theorem dX0_restore_25 : decode cX0_restore 25 = .ok (.iconst 1, 1) := by decide +kernel
theorem dX0_restore_26 : decode cX0_restore 26 = .ok (.isub, 1) := by decide +kernel
theorem dX0_restore_27 : decode cX0_restore 27 = .ok (.putfield 22, 3) := by decide +kernel
theorem dX0_restore_30 : decode cX0_restore 30 = .ok (.return_, 1) := by decide +kernel
set_option maxRecDepth 20000 in
theorem ggX0_placeOf_J9_floorMod_7cf53 : GoodIn wsX0_placeOf wsJ9_floorMod_7cf53 := goodIn_r _ [6] (by decide +kernel) (by decide +kernel)
set_option maxRecDepth 20000 in
theorem gX0_placeOf_J9_floorMod_7cf53 : GoodIn wsX0_placeOf (va_wsS RX0 33 yJ9_floorMod_7cf53 wsJ9_floorMod_7cf53) := goodIn_app (goodIn_of _ (by decide +kernel)) ggX0_placeOf_J9_floorMod_7cf53
theorem dX0_placeOf_0 : decode cX0_placeOf 0 = .ok (.aload_n 0, 1) := by decide +kernel
theorem dX0_placeOf_1 : decode cX0_placeOf 1 = .ok (.getfield 18, 3) := by decide +kernel
theorem dX0_placeOf_4 : decode cX0_placeOf 4 = .ok (.iload_n 1, 1) := by decide +kernel
theorem dX0_placeOf_5 : decode cX0_placeOf 5 = .ok (.iadd, 1) := by decide +kernel
theorem dX0_placeOf_6 : decode cX0_placeOf 6 = .ok (.bipush 6, 2) := by decide +kernel
theorem dX0_placeOf_8 : decode cX0_placeOf 8 = .ok (.invokestatic 33, 3) := by decide +kernel
theorem dX0_placeOf_11 : decode cX0_placeOf 11 = .ok (.istore_n 2, 1) := by decide +kernel
theorem dX0_placeOf_12 : decode cX0_placeOf 12 = .ok (.iload_n 2, 1) := by decide +kernel
theorem dX0_placeOf_13 : decode cX0_placeOf 13 = .ok (.ifCond .lt 21, 3) := by decide +kernel
theorem dX0_placeOf_16 : decode cX0_placeOf 16 = .ok (.iload_n 2, 1) := by decide +kernel
theorem dX0_placeOf_17 : decode cX0_placeOf 17 = .ok (.aload_n 0, 1) := by decide +kernel
theorem dX0_placeOf_18 : decode cX0_placeOf 18 = .ok (.getfield 11, 3) := by decide +kernel
theorem dX0_placeOf_21 : decode cX0_placeOf 21 = .ok (.arraylength, 1) := by decide +kernel
theorem dX0_placeOf_22 : decode cX0_placeOf 22 = .ok (.if_icmp .ge 12, 3) := by decide +kernel
theorem dX0_placeOf_25 : decode cX0_placeOf 25 = .ok (.aload_n 0, 1) := by decide +kernel
theorem dX0_placeOf_26 : decode cX0_placeOf 26 = .ok (.getfield 11, 3) := by decide +kernel
theorem dX0_placeOf_29 : decode cX0_placeOf 29 = .ok (.iload_n 2, 1) := by decide +kernel
theorem dX0_placeOf_30 : decode cX0_placeOf 30 = .ok (.aaload, 1) := by decide +kernel
theorem dX0_placeOf_31 : decode cX0_placeOf 31 = .ok (.goto 4, 3) := by decide +kernel
theorem dX0_placeOf_34 : decode cX0_placeOf 34 = .ok (.aconst_null, 1) := by decide +kernel
theorem dX0_placeOf_35 : decode cX0_placeOf 35 = .ok (.areturn, 1) := by decide +kernel
theorem dX1_init_0 : decode cX1_init 0 = .ok (.aload_n 0, 1) := by decide +kernel
theorem dX1_init_1 : decode cX1_init 1 = .ok (.invokespecial 3, 3) := by decide +kernel
theorem dX1_init_4 : decode cX1_init 4 = .ok (.aload_n 0, 1) := by decide +kernel
theorem dX1_init_5 : decode cX1_init 5 = .ok (.iload_n 1, 1) := by decide +kernel
theorem dX1_init_6 : decode cX1_init 6 = .ok (.newarray .int, 2) := by decide +kernel
theorem dX1_init_8 : decode cX1_init 8 = .ok (.putfield 9, 3) := by decide +kernel
theorem dX1_init_11 : decode cX1_init 11 = .ok (.aload_n 0, 1) := by decide +kernel
theorem dX1_init_12 : decode cX1_init 12 = .ok (.iload_n 1, 1) := by decide +kernel
theorem dX1_init_13 : decode cX1_init 13 = .ok (.newarray .int, 2) := by decide +kernel
theorem dX1_init_15 : decode cX1_init 15 = .ok (.putfield 15, 3) := by decide +kernel
theorem dX1_init_18 : decode cX1_init 18 = .ok (.aload_n 0, 1) := by decide +kernel
theorem dX1_init_19 : decode cX1_init 19 = .ok (.iconst 0, 1) := by decide +kernel
theorem dX1_init_20 : decode cX1_init 20 = .ok (.putfield 18, 3) := by decide +kernel
theorem dX1_init_23 : decode cX1_init 23 = .ok (.aload_n 0, 1) := by decide +kernel
theorem dX1_init_24 : decode cX1_init 24 = .ok (.iconst 0, 1) := by decide +kernel
theorem dX1_init_25 : decode cX1_init 25 = .ok (.putfield 22, 3) := by decide +kernel
theorem dX1_init_28 : decode cX1_init 28 = .ok (.return_, 1) := by decide +kernel
set_option maxRecDepth 20000 in
theorem ggX1_copyFrom_X5_copyRow : GoodIn wsX1_copyFrom wsX5_copyRow := goodIn_r _ [7, 8, 9, 10, 11, 12, 13, 14, 15] (by decide +kernel) (by decide +kernel)
set_option maxRecDepth 20000 in
theorem gX1_copyFrom_X5_copyRow_n25 : GoodIn wsX1_copyFrom (wsX5_copyRow) := ggX1_copyFrom_X5_copyRow
theorem dX1_copyFrom_0 : decode cX1_copyFrom 0 = .ok (.aload_n 1, 1) := by decide +kernel
theorem dX1_copyFrom_1 : decode cX1_copyFrom 1 = .ok (.getfield 9, 3) := by decide +kernel
theorem dX1_copyFrom_4 : decode cX1_copyFrom 4 = .ok (.aload_n 0, 1) := by decide +kernel
theorem dX1_copyFrom_5 : decode cX1_copyFrom 5 = .ok (.getfield 9, 3) := by decide +kernel
theorem dX1_copyFrom_8 : decode cX1_copyFrom 8 = .ok (.invokestatic 25, 3) := by decide +kernel
theorem dX1_copyFrom_11 : decode cX1_copyFrom 11 = .ok (.aload_n 1, 1) := by decide +kernel
theorem dX1_copyFrom_12 : decode cX1_copyFrom 12 = .ok (.getfield 15, 3) := by decide +kernel
theorem dX1_copyFrom_15 : decode cX1_copyFrom 15 = .ok (.aload_n 0, 1) := by decide +kernel
theorem dX1_copyFrom_16 : decode cX1_copyFrom 16 = .ok (.getfield 15, 3) := by decide +kernel
theorem dX1_copyFrom_19 : decode cX1_copyFrom 19 = .ok (.invokestatic 25, 3) := by decide +kernel
theorem dX1_copyFrom_22 : decode cX1_copyFrom 22 = .ok (.aload_n 0, 1) := by decide +kernel
theorem dX1_copyFrom_23 : decode cX1_copyFrom 23 = .ok (.aload_n 1, 1) := by decide +kernel
theorem dX1_copyFrom_24 : decode cX1_copyFrom 24 = .ok (.getfield 18, 3) := by decide +kernel
theorem dX1_copyFrom_27 : decode cX1_copyFrom 27 = .ok (.putfield 18, 3) := by decide +kernel
theorem dX1_copyFrom_30 : decode cX1_copyFrom 30 = .ok (.aload_n 0, 1) := by decide +kernel
theorem dX1_copyFrom_31 : decode cX1_copyFrom 31 = .ok (.aload_n 1, 1) := by decide +kernel
theorem dX1_copyFrom_32 : decode cX1_copyFrom 32 = .ok (.getfield 22, 3) := by decide +kernel
theorem dX1_copyFrom_35 : decode cX1_copyFrom 35 = .ok (.putfield 22, 3) := by decide +kernel
theorem dX1_copyFrom_38 : decode cX1_copyFrom 38 = .ok (.return_, 1) := by decide +kernel
theorem dX1_size_0 : decode cX1_size 0 = .ok (.aload_n 0, 1) := by decide +kernel
theorem dX1_size_1 : decode cX1_size 1 = .ok (.getfield 18, 3) := by decide +kernel
theorem dX1_size_4 : decode cX1_size 4 = .ok (.ireturn, 1) := by decide +kernel
theorem dX1_weight_0 : decode cX1_weight 0 = .ok (.aload_n 0, 1) := by decide +kernel
theorem dX1_weight_1 : decode cX1_weight 1 = .ok (.getfield 22, 3) := by decide +kernel
theorem dX1_weight_4 : decode cX1_weight 4 = .ok (.ireturn, 1) := by decide +kernel
theorem dX1_isFull_0 : decode cX1_isFull 0 = .ok (.aload_n 0, 1) := by decide +kernel
theorem dX1_isFull_1 : decode cX1_isFull 1 = .ok (.getfield 18, 3) := by decide +kernel
theorem dX1_isFull_4 : decode cX1_isFull 4 = .ok (.aload_n 0, 1) := by decide +kernel
theorem dX1_isFull_5 : decode cX1_isFull 5 = .ok (.getfield 9, 3) := by decide +kernel
theorem dX1_isFull_8 : decode cX1_isFull 8 = .ok (.arraylength, 1) := by decide +kernel
theorem dX1_isFull_9 : decode cX1_isFull 9 = .ok (.if_icmp .lt 7, 3) := by decide +kernel
theorem dX1_isFull_12 : decode cX1_isFull 12 = .ok (.iconst 1, 1) := by decide +kernel
theorem dX1_isFull_13 : decode cX1_isFull 13 = .ok (.goto 4, 3) := by decide +kernel
theorem dX1_isFull_16 : decode cX1_isFull 16 = .ok (.iconst 0, 1) := by decide +kernel
theorem dX1_isFull_17 : decode cX1_isFull 17 = .ok (.ireturn, 1) := by decide +kernel
set_option maxRecDepth 20000 in
theorem ggX1_weightOf_X5_at : GoodIn wsX1_weightOf wsX5_at := goodIn_r _ [5] (by decide +kernel) (by decide +kernel)
set_option maxRecDepth 20000 in
theorem gX1_weightOf_X5_at_n29 : GoodIn wsX1_weightOf (wsX5_at) := ggX1_weightOf_X5_at
theorem dX1_weightOf_0 : decode cX1_weightOf 0 = .ok (.iload_n 1, 1) := by decide +kernel
theorem dX1_weightOf_1 : decode cX1_weightOf 1 = .ok (.aload_n 0, 1) := by decide +kernel
theorem dX1_weightOf_2 : decode cX1_weightOf 2 = .ok (.getfield 18, 3) := by decide +kernel
theorem dX1_weightOf_5 : decode cX1_weightOf 5 = .ok (.if_icmp .ge 14, 3) := by decide +kernel
theorem dX1_weightOf_8 : decode cX1_weightOf 8 = .ok (.aload_n 0, 1) := by decide +kernel
theorem dX1_weightOf_9 : decode cX1_weightOf 9 = .ok (.getfield 9, 3) := by decide +kernel
theorem dX1_weightOf_12 : decode cX1_weightOf 12 = .ok (.iload_n 1, 1) := by decide +kernel
theorem dX1_weightOf_13 : decode cX1_weightOf 13 = .ok (.invokestatic 29, 3) := by decide +kernel
theorem dX1_weightOf_16 : decode cX1_weightOf 16 = .ok (.goto 4, 3) := by decide +kernel
theorem dX1_weightOf_19 : decode cX1_weightOf 19 = .ok (.iconst (-1), 1) := by decide +kernel
theorem dX1_weightOf_20 : decode cX1_weightOf 20 = .ok (.ireturn, 1) := by decide +kernel
set_option maxRecDepth 20000 in
theorem ggX1_bankOf_X5_at : GoodIn wsX1_bankOf wsX5_at := goodIn_r _ [5] (by decide +kernel) (by decide +kernel)
set_option maxRecDepth 20000 in
theorem gX1_bankOf_X5_at_n29 : GoodIn wsX1_bankOf (wsX5_at) := ggX1_bankOf_X5_at
theorem dX1_bankOf_0 : decode cX1_bankOf 0 = .ok (.iload_n 1, 1) := by decide +kernel
theorem dX1_bankOf_1 : decode cX1_bankOf 1 = .ok (.aload_n 0, 1) := by decide +kernel
theorem dX1_bankOf_2 : decode cX1_bankOf 2 = .ok (.getfield 18, 3) := by decide +kernel
theorem dX1_bankOf_5 : decode cX1_bankOf 5 = .ok (.if_icmp .ge 14, 3) := by decide +kernel
theorem dX1_bankOf_8 : decode cX1_bankOf 8 = .ok (.aload_n 0, 1) := by decide +kernel
theorem dX1_bankOf_9 : decode cX1_bankOf 9 = .ok (.getfield 15, 3) := by decide +kernel
theorem dX1_bankOf_12 : decode cX1_bankOf 12 = .ok (.iload_n 1, 1) := by decide +kernel
theorem dX1_bankOf_13 : decode cX1_bankOf 13 = .ok (.invokestatic 29, 3) := by decide +kernel
theorem dX1_bankOf_16 : decode cX1_bankOf 16 = .ok (.goto 4, 3) := by decide +kernel
theorem dX1_bankOf_19 : decode cX1_bankOf 19 = .ok (.iconst (-1), 1) := by decide +kernel
theorem dX1_bankOf_20 : decode cX1_bankOf 20 = .ok (.ireturn, 1) := by decide +kernel
set_option maxRecDepth 20000 in
theorem ggX1_countOfBank_X5_at : GoodIn wsX1_countOfBank wsX5_at := goodIn_r _ [5] (by decide +kernel) (by decide +kernel)
set_option maxRecDepth 20000 in
theorem gX1_countOfBank_X5_at_n29 : GoodIn wsX1_countOfBank (wsX5_at) := ggX1_countOfBank_X5_at
theorem dX1_countOfBank_0 : decode cX1_countOfBank 0 = .ok (.iconst 0, 1) := by decide +kernel
theorem dX1_countOfBank_1 : decode cX1_countOfBank 1 = .ok (.istore_n 2, 1) := by decide +kernel
theorem dX1_countOfBank_2 : decode cX1_countOfBank 2 = .ok (.iconst 0, 1) := by decide +kernel
theorem dX1_countOfBank_3 : decode cX1_countOfBank 3 = .ok (.istore_n 3, 1) := by decide +kernel
theorem dX1_countOfBank_4 : decode cX1_countOfBank 4 = .ok (.iload_n 3, 1) := by decide +kernel
theorem dX1_countOfBank_5 : decode cX1_countOfBank 5 = .ok (.aload_n 0, 1) := by decide +kernel
theorem dX1_countOfBank_6 : decode cX1_countOfBank 6 = .ok (.getfield 18, 3) := by decide +kernel
theorem dX1_countOfBank_9 : decode cX1_countOfBank 9 = .ok (.if_icmp .ge 24, 3) := by decide +kernel
theorem dX1_countOfBank_12 : decode cX1_countOfBank 12 = .ok (.aload_n 0, 1) := by decide +kernel
theorem dX1_countOfBank_13 : decode cX1_countOfBank 13 = .ok (.getfield 15, 3) := by decide +kernel
theorem dX1_countOfBank_16 : decode cX1_countOfBank 16 = .ok (.iload_n 3, 1) := by decide +kernel
theorem dX1_countOfBank_17 : decode cX1_countOfBank 17 = .ok (.invokestatic 29, 3) := by decide +kernel
theorem dX1_countOfBank_20 : decode cX1_countOfBank 20 = .ok (.iload_n 1, 1) := by decide +kernel
theorem dX1_countOfBank_21 : decode cX1_countOfBank 21 = .ok (.if_icmp .ne 6, 3) := by decide +kernel
theorem dX1_countOfBank_24 : decode cX1_countOfBank 24 = .ok (.iinc 2 1, 3) := by decide +kernel
theorem dX1_countOfBank_27 : decode cX1_countOfBank 27 = .ok (.iinc 3 1, 3) := by decide +kernel
theorem dX1_countOfBank_30 : decode cX1_countOfBank 30 = .ok (.goto (-26), 3) := by decide +kernel
theorem dX1_countOfBank_33 : decode cX1_countOfBank 33 = .ok (.iload_n 2, 1) := by decide +kernel
theorem dX1_countOfBank_34 : decode cX1_countOfBank 34 = .ok (.ireturn, 1) := by decide +kernel
set_option maxRecDepth 20000 in
theorem ggX1_add_X1_isFull : GoodIn wsX1_add wsX1_isFull := goodIn_r _ [9, 2, 1, 13, 14, 15, 16] (by decide +kernel) (by decide +kernel)
set_option maxRecDepth 20000 in
theorem gX1_add_X1_isFull : GoodIn wsX1_add (wsV RX1 33 RX1 yX1_isFull wsX1_isFull) := goodIn_app (goodIn_of _ (by decide +kernel)) ggX1_add_X1_isFull
set_option maxRecDepth 20000 in
theorem ggX1_add_X5_put : GoodIn wsX1_add wsX5_put := goodIn_r _ [12] (by decide +kernel) (by decide +kernel)
set_option maxRecDepth 20000 in
theorem gX1_add_X5_put_n37 : GoodIn wsX1_add (wsX5_put) := ggX1_add_X5_put
theorem dX1_add_0 : decode cX1_add 0 = .ok (.aload_n 0, 1) := by decide +kernel
theorem dX1_add_1 : decode cX1_add 1 = .ok (.invokevirtual 33, 3) := by decide +kernel
theorem dX1_add_4 : decode cX1_add 4 = .ok (.ifCond .eq 4, 3) := by decide +kernel
theorem dX1_add_7 : decode cX1_add 7 = .ok (.return_, 1) := by decide +kernel
theorem dX1_add_8 : decode cX1_add 8 = .ok (.aload_n 0, 1) := by decide +kernel
theorem dX1_add_9 : decode cX1_add 9 = .ok (.getfield 9, 3) := by decide +kernel
theorem dX1_add_12 : decode cX1_add 12 = .ok (.aload_n 0, 1) := by decide +kernel
theorem dX1_add_13 : decode cX1_add 13 = .ok (.getfield 18, 3) := by decide +kernel
theorem dX1_add_16 : decode cX1_add 16 = .ok (.iload_n 1, 1) := by decide +kernel
theorem dX1_add_17 : decode cX1_add 17 = .ok (.invokestatic 37, 3) := by decide +kernel
theorem dX1_add_20 : decode cX1_add 20 = .ok (.aload_n 0, 1) := by decide +kernel
theorem dX1_add_21 : decode cX1_add 21 = .ok (.getfield 15, 3) := by decide +kernel
theorem dX1_add_24 : decode cX1_add 24 = .ok (.aload_n 0, 1) := by decide +kernel
theorem dX1_add_25 : decode cX1_add 25 = .ok (.getfield 18, 3) := by decide +kernel
theorem dX1_add_28 : decode cX1_add 28 = .ok (.iload_n 2, 1) := by decide +kernel
theorem dX1_add_29 : decode cX1_add 29 = .ok (.invokestatic 37, 3) := by decide +kernel
theorem dX1_add_32 : decode cX1_add 32 = .ok (.aload_n 0, 1) := by decide +kernel
theorem dX1_add_33 : decode cX1_add 33 = .ok (.dup, 1) := by decide +kernel
theorem dX1_add_34 : decode cX1_add 34 = .ok (.getfield 18, 3) := by decide +kernel
theorem dX1_add_37 : decode cX1_add 37 = .ok (.iconst 1, 1) := by decide +kernel
theorem dX1_add_38 : decode cX1_add 38 = .ok (.iadd, 1) := by decide +kernel
theorem dX1_add_39 : decode cX1_add 39 = .ok (.putfield 18, 3) := by decide +kernel
theorem dX1_add_42 : decode cX1_add 42 = .ok (.aload_n 0, 1) := by decide +kernel
theorem dX1_add_43 : decode cX1_add 43 = .ok (.dup, 1) := by decide +kernel
theorem dX1_add_44 : decode cX1_add 44 = .ok (.getfield 22, 3) := by decide +kernel
theorem dX1_add_47 : decode cX1_add 47 = .ok (.iload_n 1, 1) := by decide +kernel
theorem dX1_add_48 : decode cX1_add 48 = .ok (.iadd, 1) := by decide +kernel
theorem dX1_add_49 : decode cX1_add 49 = .ok (.putfield 22, 3) := by decide +kernel
theorem dX1_add_52 : decode cX1_add 52 = .ok (.return_, 1) := by decide +kernel
set_option maxRecDepth 20000 in
theorem ggX1_removeFirst_X5_at : GoodIn wsX1_removeFirst wsX5_at := goodIn_r _ [7] (by decide +kernel) (by decide +kernel)
set_option maxRecDepth 20000 in
theorem gX1_removeFirst_X5_at_n29 : GoodIn wsX1_removeFirst (wsX5_at) := ggX1_removeFirst_X5_at
set_option maxRecDepth 20000 in
theorem ggX1_removeFirst_X5_put : GoodIn wsX1_removeFirst wsX5_put := goodIn_r _ [9] (by decide +kernel) (by decide +kernel)
set_option maxRecDepth 20000 in
theorem gX1_removeFirst_X5_put_n37 : GoodIn wsX1_removeFirst (wsX5_put) := ggX1_removeFirst_X5_put
theorem dX1_removeFirst_0 : decode cX1_removeFirst 0 = .ok (.aload_n 0, 1) := by decide +kernel
theorem dX1_removeFirst_1 : decode cX1_removeFirst 1 = .ok (.getfield 18, 3) := by decide +kernel
theorem dX1_removeFirst_4 : decode cX1_removeFirst 4 = .ok (.ifCond .ne 4, 3) := by decide +kernel
theorem dX1_removeFirst_7 : decode cX1_removeFirst 7 = .ok (.return_, 1) := by decide +kernel
theorem dX1_removeFirst_8 : decode cX1_removeFirst 8 = .ok (.aload_n 0, 1) := by decide +kernel
theorem dX1_removeFirst_9 : decode cX1_removeFirst 9 = .ok (.dup, 1) := by decide +kernel
theorem dX1_removeFirst_10 : decode cX1_removeFirst 10 = .ok (.getfield 22, 3) := by decide +kernel
theorem dX1_removeFirst_13 : decode cX1_removeFirst 13 = .ok (.aload_n 0, 1) := by decide +kernel
theorem dX1_removeFirst_14 : decode cX1_removeFirst 14 = .ok (.getfield 9, 3) := by decide +kernel
theorem dX1_removeFirst_17 : decode cX1_removeFirst 17 = .ok (.iconst 0, 1) := by decide +kernel
theorem dX1_removeFirst_18 : decode cX1_removeFirst 18 = .ok (.invokestatic 29, 3) := by decide +kernel
theorem dX1_removeFirst_21 : decode cX1_removeFirst 21 = .ok (.isub, 1) := by decide +kernel
theorem dX1_removeFirst_22 : decode cX1_removeFirst 22 = .ok (.putfield 22, 3) := by decide +kernel
theorem dX1_removeFirst_25 : decode cX1_removeFirst 25 = .ok (.iconst 1, 1) := by decide +kernel
theorem dX1_removeFirst_26 : decode cX1_removeFirst 26 = .ok (.istore_n 1, 1) := by decide +kernel
theorem dX1_removeFirst_27 : decode cX1_removeFirst 27 = .ok (.iload_n 1, 1) := by decide +kernel
theorem dX1_removeFirst_28 : decode cX1_removeFirst 28 = .ok (.aload_n 0, 1) := by decide +kernel
theorem dX1_removeFirst_29 : decode cX1_removeFirst 29 = .ok (.getfield 18, 3) := by decide +kernel
theorem dX1_removeFirst_32 : decode cX1_removeFirst 32 = .ok (.if_icmp .ge 45, 3) := by decide +kernel
theorem dX1_removeFirst_35 : decode cX1_removeFirst 35 = .ok (.aload_n 0, 1) := by decide +kernel
theorem dX1_removeFirst_36 : decode cX1_removeFirst 36 = .ok (.getfield 9, 3) := by decide +kernel
theorem dX1_removeFirst_39 : decode cX1_removeFirst 39 = .ok (.iload_n 1, 1) := by decide +kernel
theorem dX1_removeFirst_40 : decode cX1_removeFirst 40 = .ok (.iconst 1, 1) := by decide +kernel
theorem dX1_removeFirst_41 : decode cX1_removeFirst 41 = .ok (.isub, 1) := by decide +kernel
theorem dX1_removeFirst_42 : decode cX1_removeFirst 42 = .ok (.aload_n 0, 1) := by decide +kernel
theorem dX1_removeFirst_43 : decode cX1_removeFirst 43 = .ok (.getfield 9, 3) := by decide +kernel
theorem dX1_removeFirst_46 : decode cX1_removeFirst 46 = .ok (.iload_n 1, 1) := by decide +kernel
theorem dX1_removeFirst_47 : decode cX1_removeFirst 47 = .ok (.invokestatic 29, 3) := by decide +kernel
theorem dX1_removeFirst_50 : decode cX1_removeFirst 50 = .ok (.invokestatic 37, 3) := by decide +kernel
theorem dX1_removeFirst_53 : decode cX1_removeFirst 53 = .ok (.aload_n 0, 1) := by decide +kernel
theorem dX1_removeFirst_54 : decode cX1_removeFirst 54 = .ok (.getfield 15, 3) := by decide +kernel
theorem dX1_removeFirst_57 : decode cX1_removeFirst 57 = .ok (.iload_n 1, 1) := by decide +kernel
theorem dX1_removeFirst_58 : decode cX1_removeFirst 58 = .ok (.iconst 1, 1) := by decide +kernel
theorem dX1_removeFirst_59 : decode cX1_removeFirst 59 = .ok (.isub, 1) := by decide +kernel
theorem dX1_removeFirst_60 : decode cX1_removeFirst 60 = .ok (.aload_n 0, 1) := by decide +kernel
theorem dX1_removeFirst_61 : decode cX1_removeFirst 61 = .ok (.getfield 15, 3) := by decide +kernel
theorem dX1_removeFirst_64 : decode cX1_removeFirst 64 = .ok (.iload_n 1, 1) := by decide +kernel
theorem dX1_removeFirst_65 : decode cX1_removeFirst 65 = .ok (.invokestatic 29, 3) := by decide +kernel
theorem dX1_removeFirst_68 : decode cX1_removeFirst 68 = .ok (.invokestatic 37, 3) := by decide +kernel
theorem dX1_removeFirst_71 : decode cX1_removeFirst 71 = .ok (.iinc 1 1, 3) := by decide +kernel
theorem dX1_removeFirst_74 : decode cX1_removeFirst 74 = .ok (.goto (-47), 3) := by decide +kernel
theorem dX1_removeFirst_77 : decode cX1_removeFirst 77 = .ok (.aload_n 0, 1) := by decide +kernel
theorem dX1_removeFirst_78 : decode cX1_removeFirst 78 = .ok (.dup, 1) := by decide +kernel
theorem dX1_removeFirst_79 : decode cX1_removeFirst 79 = .ok (.getfield 18, 3) := by decide +kernel
theorem dX1_removeFirst_82 : decode cX1_removeFirst 82 = .ok (.iconst 1, 1) := by decide +kernel
theorem dX1_removeFirst_83 : decode cX1_removeFirst 83 = .ok (.isub, 1) := by decide +kernel
theorem dX1_removeFirst_84 : decode cX1_removeFirst 84 = .ok (.putfield 18, 3) := by decide +kernel
theorem dX1_removeFirst_87 : decode cX1_removeFirst 87 = .ok (.return_, 1) := by decide +kernel
theorem dX1_clear_0 : decode cX1_clear 0 = .ok (.aload_n 0, 1) := by decide +kernel
theorem dX1_clear_1 : decode cX1_clear 1 = .ok (.iconst 0, 1) := by decide +kernel
theorem dX1_clear_2 : decode cX1_clear 2 = .ok (.putfield 18, 3) := by decide +kernel
theorem dX1_clear_5 : decode cX1_clear 5 = .ok (.aload_n 0, 1) := by decide +kernel
theorem dX1_clear_6 : decode cX1_clear 6 = .ok (.iconst 0, 1) := by decide +kernel
theorem dX1_clear_7 : decode cX1_clear 7 = .ok (.putfield 22, 3) := by decide +kernel
theorem dX1_clear_10 : decode cX1_clear 10 = .ok (.return_, 1) := by decide +kernel
theorem dX2_init_0 : decode cX2_init 0 = .ok (.aload_n 0, 1) := by decide +kernel
theorem dX2_init_1 : decode cX2_init 1 = .ok (.invokespecial 3, 3) := by decide +kernel
theorem dX2_init_4 : decode cX2_init 4 = .ok (.aload_n 0, 1) := by decide +kernel
theorem dX2_init_5 : decode cX2_init 5 = .ok (.bipush 60, 2) := by decide +kernel
theorem dX2_init_7 : decode cX2_init 7 = .ok (.newarray .int, 2) := by decide +kernel
theorem dX2_init_9 : decode cX2_init 9 = .ok (.putfield 9, 3) := by decide +kernel
theorem dX2_init_12 : decode cX2_init 12 = .ok (.aload_n 0, 1) := by decide +kernel
theorem dX2_init_13 : decode cX2_init 13 = .ok (.iconst 0, 1) := by decide +kernel
theorem dX2_init_14 : decode cX2_init 14 = .ok (.putfield 15, 3) := by decide +kernel
theorem dX2_init_17 : decode cX2_init 17 = .ok (.aload_n 0, 1) := by decide +kernel
theorem dX2_init_18 : decode cX2_init 18 = .ok (.iconst 0, 1) := by decide +kernel
theorem dX2_init_19 : decode cX2_init 19 = .ok (.putfield 19, 3) := by decide +kernel
theorem dX2_init_22 : decode cX2_init 22 = .ok (.aload_n 0, 1) := by decide +kernel
theorem dX2_init_23 : decode cX2_init 23 = .ok (.iconst 0, 1) := by decide +kernel
theorem dX2_init_24 : decode cX2_init 24 = .ok (.putfield 22, 3) := by decide +kernel
theorem dX2_init_27 : decode cX2_init 27 = .ok (.return_, 1) := by decide +kernel
theorem dX2_length_0 : decode cX2_length 0 = .ok (.aload_n 0, 1) := by decide +kernel
theorem dX2_length_1 : decode cX2_length 1 = .ok (.getfield 15, 3) := by decide +kernel
theorem dX2_length_4 : decode cX2_length 4 = .ok (.ireturn, 1) := by decide +kernel
set_option maxRecDepth 20000 in
theorem ggX2_codeAt_X5_at : GoodIn wsX2_codeAt wsX5_at := goodIn_r _ [5] (by decide +kernel) (by decide +kernel)
set_option maxRecDepth 20000 in
theorem gX2_codeAt_X5_at_n25 : GoodIn wsX2_codeAt (wsX5_at) := ggX2_codeAt_X5_at
theorem dX2_codeAt_0 : decode cX2_codeAt 0 = .ok (.iload_n 1, 1) := by decide +kernel
theorem dX2_codeAt_1 : decode cX2_codeAt 1 = .ok (.aload_n 0, 1) := by decide +kernel
theorem dX2_codeAt_2 : decode cX2_codeAt 2 = .ok (.getfield 15, 3) := by decide +kernel
theorem dX2_codeAt_5 : decode cX2_codeAt 5 = .ok (.if_icmp .ge 14, 3) := by decide +kernel
theorem dX2_codeAt_8 : decode cX2_codeAt 8 = .ok (.aload_n 0, 1) := by decide +kernel
theorem dX2_codeAt_9 : decode cX2_codeAt 9 = .ok (.getfield 9, 3) := by decide +kernel
theorem dX2_codeAt_12 : decode cX2_codeAt 12 = .ok (.iload_n 1, 1) := by decide +kernel
theorem dX2_codeAt_13 : decode cX2_codeAt 13 = .ok (.invokestatic 25, 3) := by decide +kernel
theorem dX2_codeAt_16 : decode cX2_codeAt 16 = .ok (.goto 4, 3) := by decide +kernel
theorem dX2_codeAt_19 : decode cX2_codeAt 19 = .ok (.iconst (-1), 1) := by decide +kernel
theorem dX2_codeAt_20 : decode cX2_codeAt 20 = .ok (.ireturn, 1) := by decide +kernel
set_option maxRecDepth 20000 in
theorem ggX2_add_X5_put : GoodIn wsX2_add wsX5_put := goodIn_r _ [7] (by decide +kernel) (by decide +kernel)
set_option maxRecDepth 20000 in
theorem gX2_add_X5_put_n29 : GoodIn wsX2_add (wsX5_put) := ggX2_add_X5_put
set_option maxRecDepth 20000 in
theorem ggX2_add_X2_endBehind : GoodIn wsX2_add wsX2_endBehind := goodIn_r _ [11, 12, 13, 10, 14, 15, 6, 16, 17, 18, 19, 20, 21, 22] (by decide +kernel) (by decide +kernel)
set_option maxRecDepth 20000 in
theorem gX2_add_X2_endBehind : GoodIn wsX2_add (va_wsS RX2 33 yX2_endBehind wsX2_endBehind) := goodIn_app (goodIn_of _ (by decide +kernel)) ggX2_add_X2_endBehind
theorem dX2_add_0 : decode cX2_add 0 = .ok (.aload_n 0, 1) := by decide +kernel
theorem dX2_add_1 : decode cX2_add 1 = .ok (.getfield 9, 3) := by decide +kernel
theorem dX2_add_4 : decode cX2_add 4 = .ok (.aload_n 0, 1) := by decide +kernel
theorem dX2_add_5 : decode cX2_add 5 = .ok (.getfield 15, 3) := by decide +kernel
theorem dX2_add_8 : decode cX2_add 8 = .ok (.iload_n 1, 1) := by decide +kernel
theorem dX2_add_9 : decode cX2_add 9 = .ok (.invokestatic 29, 3) := by decide +kernel
theorem dX2_add_12 : decode cX2_add 12 = .ok (.aload_n 0, 1) := by decide +kernel
theorem dX2_add_13 : decode cX2_add 13 = .ok (.dup, 1) := by decide +kernel
theorem dX2_add_14 : decode cX2_add 14 = .ok (.getfield 15, 3) := by decide +kernel
theorem dX2_add_17 : decode cX2_add 17 = .ok (.iconst 1, 1) := by decide +kernel
theorem dX2_add_18 : decode cX2_add 18 = .ok (.iadd, 1) := by decide +kernel
theorem dX2_add_19 : decode cX2_add 19 = .ok (.putfield 15, 3) := by decide +kernel
theorem dX2_add_22 : decode cX2_add 22 = .ok (.aload_n 0, 1) := by decide +kernel
theorem dX2_add_23 : decode cX2_add 23 = .ok (.aload_n 0, 1) := by decide +kernel
theorem dX2_add_24 : decode cX2_add 24 = .ok (.getfield 22, 3) := by decide +kernel
theorem dX2_add_27 : decode cX2_add 27 = .ok (.iload_n 1, 1) := by decide +kernel
theorem dX2_add_28 : decode cX2_add 28 = .ok (.invokestatic 33, 3) := by decide +kernel
theorem dX2_add_31 : decode cX2_add 31 = .ok (.putfield 22, 3) := by decide +kernel
theorem dX2_add_34 : decode cX2_add 34 = .ok (.aload_n 0, 1) := by decide +kernel
theorem dX2_add_35 : decode cX2_add 35 = .ok (.getfield 22, 3) := by decide +kernel
theorem dX2_add_38 : decode cX2_add 38 = .ok (.iconst (-1), 1) := by decide +kernel
theorem dX2_add_39 : decode cX2_add 39 = .ok (.if_icmp .eq 13, 3) := by decide +kernel
theorem dX2_add_42 : decode cX2_add 42 = .ok (.aload_n 0, 1) := by decide +kernel
theorem dX2_add_43 : decode cX2_add 43 = .ok (.dup, 1) := by decide +kernel
theorem dX2_add_44 : decode cX2_add 44 = .ok (.getfield 19, 3) := by decide +kernel
theorem dX2_add_47 : decode cX2_add 47 = .ok (.iconst 1, 1) := by decide +kernel
theorem dX2_add_48 : decode cX2_add 48 = .ok (.iadd, 1) := by decide +kernel
theorem dX2_add_49 : decode cX2_add 49 = .ok (.putfield 19, 3) := by decide +kernel
theorem dX2_add_52 : decode cX2_add 52 = .ok (.return_, 1) := by decide +kernel
theorem dX2_clear_0 : decode cX2_clear 0 = .ok (.aload_n 0, 1) := by decide +kernel
theorem dX2_clear_1 : decode cX2_clear 1 = .ok (.iconst 0, 1) := by decide +kernel
theorem dX2_clear_2 : decode cX2_clear 2 = .ok (.putfield 15, 3) := by decide +kernel
theorem dX2_clear_5 : decode cX2_clear 5 = .ok (.aload_n 0, 1) := by decide +kernel
theorem dX2_clear_6 : decode cX2_clear 6 = .ok (.iconst 0, 1) := by decide +kernel
theorem dX2_clear_7 : decode cX2_clear 7 = .ok (.putfield 19, 3) := by decide +kernel
theorem dX2_clear_10 : decode cX2_clear 10 = .ok (.aload_n 0, 1) := by decide +kernel
theorem dX2_clear_11 : decode cX2_clear 11 = .ok (.iconst 0, 1) := by decide +kernel
theorem dX2_clear_12 : decode cX2_clear 12 = .ok (.putfield 22, 3) := by decide +kernel
theorem dX2_clear_15 : decode cX2_clear 15 = .ok (.return_, 1) := by decide +kernel
theorem dX2_firstWrong_0 : decode cX2_firstWrong 0 = .ok (.aload_n 0, 1) := by decide +kernel
theorem dX2_firstWrong_1 : decode cX2_firstWrong 1 = .ok (.getfield 19, 3) := by decide +kernel
theorem dX2_firstWrong_4 : decode cX2_firstWrong 4 = .ok (.ireturn, 1) := by decide +kernel
theorem dX2_areComplete_0 : decode cX2_areComplete 0 = .ok (.aload_n 0, 1) := by decide +kernel
theorem dX2_areComplete_1 : decode cX2_areComplete 1 = .ok (.getfield 22, 3) := by decide +kernel
theorem dX2_areComplete_4 : decode cX2_areComplete 4 = .ok (.bipush 7, 2) := by decide +kernel
theorem dX2_areComplete_6 : decode cX2_areComplete 6 = .ok (.if_icmp .lt 7, 3) := by decide +kernel
theorem dX2_areComplete_9 : decode cX2_areComplete 9 = .ok (.iconst 1, 1) := by decide +kernel
theorem dX2_areComplete_10 : decode cX2_areComplete 10 = .ok (.goto 4, 3) := by decide +kernel
theorem dX2_areComplete_13 : decode cX2_areComplete 13 = .ok (.iconst 0, 1) := by decide +kernel
theorem dX2_areComplete_14 : decode cX2_areComplete 14 = .ok (.ireturn, 1) := by decide +kernel
set_option maxRecDepth 20000 in
theorem ggX2_isStartOfPart_X2_codeAt : GoodIn wsX2_isStartOfPart wsX2_codeAt := goodIn_r _ [5, 6, 7, 8, 9, 10, 11, 12, 13, 14] (by decide +kernel) (by decide +kernel)
set_option maxRecDepth 20000 in
theorem gX2_isStartOfPart_X2_codeAt : GoodIn wsX2_isStartOfPart (wsV RX2 37 RX2 yX2_codeAt wsX2_codeAt) := goodIn_app (goodIn_of _ (by decide +kernel)) ggX2_isStartOfPart_X2_codeAt
theorem dX2_isStartOfPart_0 : decode cX2_isStartOfPart 0 = .ok (.iload_n 1, 1) := by decide +kernel
theorem dX2_isStartOfPart_1 : decode cX2_isStartOfPart 1 = .ok (.ifCond .eq 15, 3) := by decide +kernel
theorem dX2_isStartOfPart_4 : decode cX2_isStartOfPart 4 = .ok (.aload_n 0, 1) := by decide +kernel
theorem dX2_isStartOfPart_5 : decode cX2_isStartOfPart 5 = .ok (.iload_n 1, 1) := by decide +kernel
theorem dX2_isStartOfPart_6 : decode cX2_isStartOfPart 6 = .ok (.iconst 1, 1) := by decide +kernel
theorem dX2_isStartOfPart_7 : decode cX2_isStartOfPart 7 = .ok (.isub, 1) := by decide +kernel
theorem dX2_isStartOfPart_8 : decode cX2_isStartOfPart 8 = .ok (.invokevirtual 37, 3) := by decide +kernel
theorem dX2_isStartOfPart_11 : decode cX2_isStartOfPart 11 = .ok (.bipush 59, 2) := by decide +kernel
theorem dX2_isStartOfPart_13 : decode cX2_isStartOfPart 13 = .ok (.if_icmp .ne 7, 3) := by decide +kernel
theorem dX2_isStartOfPart_16 : decode cX2_isStartOfPart 16 = .ok (.iconst 1, 1) := by decide +kernel
theorem dX2_isStartOfPart_17 : decode cX2_isStartOfPart 17 = .ok (.goto 4, 3) := by decide +kernel
theorem dX2_isStartOfPart_20 : decode cX2_isStartOfPart 20 = .ok (.iconst 0, 1) := by decide +kernel
theorem dX2_isStartOfPart_21 : decode cX2_isStartOfPart 21 = .ok (.ireturn, 1) := by decide +kernel
set_option maxRecDepth 20000 in
theorem ggX2_numberAt_X2_codeAt : GoodIn wsX2_numberAt wsX2_codeAt := goodIn_r _ [6, 1, 7, 8, 9, 10, 13, 14, 15, 16] (by decide +kernel) (by decide +kernel)
set_option maxRecDepth 20000 in
theorem gX2_numberAt_X2_codeAt : GoodIn wsX2_numberAt (wsV RX2 37 RX2 yX2_codeAt wsX2_codeAt) := goodIn_app (goodIn_of _ (by decide +kernel)) ggX2_numberAt_X2_codeAt
set_option maxRecDepth 20000 in
theorem ggX2_numberAt_X5_isWithin : GoodIn wsX2_numberAt wsX5_isWithin := goodIn_r _ [12] (by decide +kernel) (by decide +kernel)
set_option maxRecDepth 20000 in
theorem gX2_numberAt_X5_isWithin_n41 : GoodIn wsX2_numberAt (wsX5_isWithin) := ggX2_numberAt_X5_isWithin
theorem dX2_numberAt_0 : decode cX2_numberAt 0 = .ok (.iconst 0, 1) := by decide +kernel
theorem dX2_numberAt_1 : decode cX2_numberAt 1 = .ok (.istore_n 2, 1) := by decide +kernel
theorem dX2_numberAt_2 : decode cX2_numberAt 2 = .ok (.iload_n 1, 1) := by decide +kernel
theorem dX2_numberAt_3 : decode cX2_numberAt 3 = .ok (.istore_n 3, 1) := by decide +kernel
theorem dX2_numberAt_4 : decode cX2_numberAt 4 = .ok (.iload_n 3, 1) := by decide +kernel
theorem dX2_numberAt_5 : decode cX2_numberAt 5 = .ok (.aload_n 0, 1) := by decide +kernel
theorem dX2_numberAt_6 : decode cX2_numberAt 6 = .ok (.getfield 15, 3) := by decide +kernel
theorem dX2_numberAt_9 : decode cX2_numberAt 9 = .ok (.if_icmp .ge 38, 3) := by decide +kernel
theorem dX2_numberAt_12 : decode cX2_numberAt 12 = .ok (.aload_n 0, 1) := by decide +kernel
theorem dX2_numberAt_13 : decode cX2_numberAt 13 = .ok (.iload_n 3, 1) := by decide +kernel
theorem dX2_numberAt_14 : decode cX2_numberAt 14 = .ok (.invokevirtual 37, 3) := by decide +kernel
theorem dX2_numberAt_17 : decode cX2_numberAt 17 = .ok (.bipush 48, 2) := by decide +kernel
theorem dX2_numberAt_19 : decode cX2_numberAt 19 = .ok (.bipush 57, 2) := by decide +kernel
theorem dX2_numberAt_21 : decode cX2_numberAt 21 = .ok (.invokestatic 41, 3) := by decide +kernel
theorem dX2_numberAt_24 : decode cX2_numberAt 24 = .ok (.ifCond .eq 23, 3) := by decide +kernel
theorem dX2_numberAt_27 : decode cX2_numberAt 27 = .ok (.bipush 10, 2) := by decide +kernel
theorem dX2_numberAt_29 : decode cX2_numberAt 29 = .ok (.iload_n 2, 1) := by decide +kernel
theorem dX2_numberAt_30 : decode cX2_numberAt 30 = .ok (.imul, 1) := by decide +kernel
theorem dX2_numberAt_31 : decode cX2_numberAt 31 = .ok (.aload_n 0, 1) := by decide +kernel
theorem dX2_numberAt_32 : decode cX2_numberAt 32 = .ok (.iload_n 3, 1) := by decide +kernel
theorem dX2_numberAt_33 : decode cX2_numberAt 33 = .ok (.invokevirtual 37, 3) := by decide +kernel
theorem dX2_numberAt_36 : decode cX2_numberAt 36 = .ok (.iadd, 1) := by decide +kernel
theorem dX2_numberAt_37 : decode cX2_numberAt 37 = .ok (.bipush 48, 2) := by decide +kernel
theorem dX2_numberAt_39 : decode cX2_numberAt 39 = .ok (.isub, 1) := by decide +kernel
theorem dX2_numberAt_40 : decode cX2_numberAt 40 = .ok (.istore_n 2, 1) := by decide +kernel
theorem dX2_numberAt_41 : decode cX2_numberAt 41 = .ok (.iinc 3 1, 3) := by decide +kernel
theorem dX2_numberAt_44 : decode cX2_numberAt 44 = .ok (.goto (-40), 3) := by decide +kernel
theorem dX2_numberAt_47 : decode cX2_numberAt 47 = .ok (.iload_n 2, 1) := by decide +kernel
theorem dX2_numberAt_48 : decode cX2_numberAt 48 = .ok (.ireturn, 1) := by decide +kernel
set_option maxRecDepth 20000 in
theorem ggX2_endBehind_X2_endBehindKind : GoodIn wsX2_endBehind wsX2_endBehindKind := goodIn_r _ [4] (by decide +kernel) (by decide +kernel)
set_option maxRecDepth 20000 in
theorem gX2_endBehind_X2_endBehindKind : GoodIn wsX2_endBehind (va_wsS RX2 45 yX2_endBehindKind wsX2_endBehindKind) := goodIn_app (goodIn_of _ (by decide +kernel)) ggX2_endBehind_X2_endBehindKind
set_option maxRecDepth 20000 in
theorem ggX2_endBehind_X5_isWithin : GoodIn wsX2_endBehind wsX5_isWithin := goodIn_r _ [7] (by decide +kernel) (by decide +kernel)
set_option maxRecDepth 20000 in
theorem gX2_endBehind_X5_isWithin_n41 : GoodIn wsX2_endBehind (wsX5_isWithin) := ggX2_endBehind_X5_isWithin
set_option maxRecDepth 20000 in
theorem ggX2_endBehind_X2_endBehindFirstDigit : GoodIn wsX2_endBehind wsX2_endBehindFirstDigit := goodIn_r _ [10, 5, 6, 7] (by decide +kernel) (by decide +kernel)
set_option maxRecDepth 20000 in
theorem gX2_endBehind_X2_endBehindFirstDigit : GoodIn wsX2_endBehind (va_wsS RX2 48 yX2_endBehindFirstDigit wsX2_endBehindFirstDigit) := goodIn_app (goodIn_of _ (by decide +kernel)) ggX2_endBehind_X2_endBehindFirstDigit
set_option maxRecDepth 20000 in
theorem ggX2_endBehind_X2_endBehindSecondDigit : GoodIn wsX2_endBehind wsX2_endBehindSecondDigit := goodIn_r _ [13, 5, 6, 7] (by decide +kernel) (by decide +kernel)
set_option maxRecDepth 20000 in
theorem gX2_endBehind_X2_endBehindSecondDigit : GoodIn wsX2_endBehind (va_wsS RX2 51 yX2_endBehindSecondDigit wsX2_endBehindSecondDigit) := goodIn_app (goodIn_of _ (by decide +kernel)) ggX2_endBehind_X2_endBehindSecondDigit
theorem dX2_endBehind_0 : decode cX2_endBehind 0 = .ok (.iload_n 0, 1) := by decide +kernel
theorem dX2_endBehind_1 : decode cX2_endBehind 1 = .ok (.tableswitch 166 (-1) 9 #[59, 61, 66, 83, 95, 102, 120, 127, 145, 152, 159], 59) := by decide +kernel
theorem dX2_endBehind_60 : decode cX2_endBehind 60 = .ok (.iconst (-1), 1) := by decide +kernel
theorem dX2_endBehind_61 : decode cX2_endBehind 61 = .ok (.ireturn, 1) := by decide +kernel
theorem dX2_endBehind_62 : decode cX2_endBehind 62 = .ok (.iload_n 1, 1) := by decide +kernel
theorem dX2_endBehind_63 : decode cX2_endBehind 63 = .ok (.invokestatic 45, 3) := by decide +kernel
theorem dX2_endBehind_66 : decode cX2_endBehind 66 = .ok (.ireturn, 1) := by decide +kernel
theorem dX2_endBehind_67 : decode cX2_endBehind 67 = .ok (.iload_n 1, 1) := by decide +kernel
theorem dX2_endBehind_68 : decode cX2_endBehind 68 = .ok (.bipush 48, 2) := by decide +kernel
theorem dX2_endBehind_70 : decode cX2_endBehind 70 = .ok (.bipush 49, 2) := by decide +kernel
theorem dX2_endBehind_72 : decode cX2_endBehind 72 = .ok (.invokestatic 41, 3) := by decide +kernel
theorem dX2_endBehind_75 : decode cX2_endBehind 75 = .ok (.ifCond .eq 7, 3) := by decide +kernel
theorem dX2_endBehind_78 : decode cX2_endBehind 78 = .ok (.iconst 2, 1) := by decide +kernel
theorem dX2_endBehind_79 : decode cX2_endBehind 79 = .ok (.goto 4, 3) := by decide +kernel
theorem dX2_endBehind_82 : decode cX2_endBehind 82 = .ok (.iconst (-1), 1) := by decide +kernel
theorem dX2_endBehind_83 : decode cX2_endBehind 83 = .ok (.ireturn, 1) := by decide +kernel
theorem dX2_endBehind_84 : decode cX2_endBehind 84 = .ok (.iload_n 1, 1) := by decide +kernel
theorem dX2_endBehind_85 : decode cX2_endBehind 85 = .ok (.bipush 58, 2) := by decide +kernel
theorem dX2_endBehind_87 : decode cX2_endBehind 87 = .ok (.if_icmp .ne 7, 3) := by decide +kernel
theorem dX2_endBehind_90 : decode cX2_endBehind 90 = .ok (.iconst 3, 1) := by decide +kernel
theorem dX2_endBehind_91 : decode cX2_endBehind 91 = .ok (.goto 4, 3) := by decide +kernel
theorem dX2_endBehind_94 : decode cX2_endBehind 94 = .ok (.iconst (-1), 1) := by decide +kernel
theorem dX2_endBehind_95 : decode cX2_endBehind 95 = .ok (.ireturn, 1) := by decide +kernel
theorem dX2_endBehind_96 : decode cX2_endBehind 96 = .ok (.iload_n 1, 1) := by decide +kernel
theorem dX2_endBehind_97 : decode cX2_endBehind 97 = .ok (.bipush 8, 2) := by decide +kernel
theorem dX2_endBehind_99 : decode cX2_endBehind 99 = .ok (.invokestatic 48, 3) := by decide +kernel
theorem dX2_endBehind_102 : decode cX2_endBehind 102 = .ok (.ireturn, 1) := by decide +kernel
theorem dX2_endBehind_103 : decode cX2_endBehind 103 = .ok (.iload_n 1, 1) := by decide +kernel
theorem dX2_endBehind_104 : decode cX2_endBehind 104 = .ok (.bipush 48, 2) := by decide +kernel
theorem dX2_endBehind_106 : decode cX2_endBehind 106 = .ok (.bipush 49, 2) := by decide +kernel
theorem dX2_endBehind_108 : decode cX2_endBehind 108 = .ok (.invokestatic 41, 3) := by decide +kernel
theorem dX2_endBehind_111 : decode cX2_endBehind 111 = .ok (.ifCond .eq 8, 3) := by decide +kernel
theorem dX2_endBehind_114 : decode cX2_endBehind 114 = .ok (.bipush 10, 2) := by decide +kernel
theorem dX2_endBehind_116 : decode cX2_endBehind 116 = .ok (.goto 4, 3) := by decide +kernel
theorem dX2_endBehind_119 : decode cX2_endBehind 119 = .ok (.iconst (-1), 1) := by decide +kernel
theorem dX2_endBehind_120 : decode cX2_endBehind 120 = .ok (.ireturn, 1) := by decide +kernel
theorem dX2_endBehind_121 : decode cX2_endBehind 121 = .ok (.iload_n 1, 1) := by decide +kernel
theorem dX2_endBehind_122 : decode cX2_endBehind 122 = .ok (.bipush 9, 2) := by decide +kernel
theorem dX2_endBehind_124 : decode cX2_endBehind 124 = .ok (.invokestatic 48, 3) := by decide +kernel
theorem dX2_endBehind_127 : decode cX2_endBehind 127 = .ok (.ireturn, 1) := by decide +kernel
theorem dX2_endBehind_128 : decode cX2_endBehind 128 = .ok (.iload_n 1, 1) := by decide +kernel
theorem dX2_endBehind_129 : decode cX2_endBehind 129 = .ok (.bipush 49, 2) := by decide +kernel
theorem dX2_endBehind_131 : decode cX2_endBehind 131 = .ok (.bipush 53, 2) := by decide +kernel
theorem dX2_endBehind_133 : decode cX2_endBehind 133 = .ok (.invokestatic 41, 3) := by decide +kernel
theorem dX2_endBehind_136 : decode cX2_endBehind 136 = .ok (.ifCond .eq 8, 3) := by decide +kernel
theorem dX2_endBehind_139 : decode cX2_endBehind 139 = .ok (.bipush 10, 2) := by decide +kernel
theorem dX2_endBehind_141 : decode cX2_endBehind 141 = .ok (.goto 4, 3) := by decide +kernel
theorem dX2_endBehind_144 : decode cX2_endBehind 144 = .ok (.iconst (-1), 1) := by decide +kernel
theorem dX2_endBehind_145 : decode cX2_endBehind 145 = .ok (.ireturn, 1) := by decide +kernel
theorem dX2_endBehind_146 : decode cX2_endBehind 146 = .ok (.iload_n 1, 1) := by decide +kernel
theorem dX2_endBehind_147 : decode cX2_endBehind 147 = .ok (.bipush 57, 2) := by decide +kernel
theorem dX2_endBehind_149 : decode cX2_endBehind 149 = .ok (.invokestatic 51, 3) := by decide +kernel
theorem dX2_endBehind_152 : decode cX2_endBehind 152 = .ok (.ireturn, 1) := by decide +kernel
theorem dX2_endBehind_153 : decode cX2_endBehind 153 = .ok (.iload_n 1, 1) := by decide +kernel
theorem dX2_endBehind_154 : decode cX2_endBehind 154 = .ok (.bipush 48, 2) := by decide +kernel
theorem dX2_endBehind_156 : decode cX2_endBehind 156 = .ok (.invokestatic 51, 3) := by decide +kernel
theorem dX2_endBehind_159 : decode cX2_endBehind 159 = .ok (.ireturn, 1) := by decide +kernel
theorem dX2_endBehind_160 : decode cX2_endBehind 160 = .ok (.iload_n 1, 1) := by decide +kernel
theorem dX2_endBehind_161 : decode cX2_endBehind 161 = .ok (.bipush 52, 2) := by decide +kernel
theorem dX2_endBehind_163 : decode cX2_endBehind 163 = .ok (.invokestatic 51, 3) := by decide +kernel
theorem dX2_endBehind_166 : decode cX2_endBehind 166 = .ok (.ireturn, 1) := by decide +kernel
theorem dX2_endBehind_167 : decode cX2_endBehind 167 = .ok (.iload_n 1, 1) := by decide +kernel
theorem dX2_endBehind_168 : decode cX2_endBehind 168 = .ok (.bipush 59, 2) := by decide +kernel
theorem dX2_endBehind_170 : decode cX2_endBehind 170 = .ok (.if_icmp .ne 7, 3) := by decide +kernel
theorem dX2_endBehind_173 : decode cX2_endBehind 173 = .ok (.iconst 0, 1) := by decide +kernel
theorem dX2_endBehind_174 : decode cX2_endBehind 174 = .ok (.goto 4, 3) := by decide +kernel
theorem dX2_endBehind_177 : decode cX2_endBehind 177 = .ok (.iconst (-1), 1) := by decide +kernel
theorem dX2_endBehind_178 : decode cX2_endBehind 178 = .ok (.ireturn, 1) := by decide +kernel
theorem dX2_endBehindKind_0 : decode cX2_endBehindKind 0 = .ok (.iload_n 0, 1) := by decide +kernel
theorem dX2_endBehindKind_1 : decode cX2_endBehindKind 1 = .ok (.lookupswitch 74 #[(97, 59), (100, 65), (108, 61), (117, 68), (119, 63), (120, 71)], 59) := by decide +kernel
theorem dX2_endBehindKind_60 : decode cX2_endBehindKind 60 = .ok (.iconst 1, 1) := by decide +kernel
theorem dX2_endBehindKind_61 : decode cX2_endBehindKind 61 = .ok (.ireturn, 1) := by decide +kernel
theorem dX2_endBehindKind_62 : decode cX2_endBehindKind 62 = .ok (.iconst 4, 1) := by decide +kernel
theorem dX2_endBehindKind_63 : decode cX2_endBehindKind 63 = .ok (.ireturn, 1) := by decide +kernel
theorem dX2_endBehindKind_64 : decode cX2_endBehindKind 64 = .ok (.iconst 5, 1) := by decide +kernel
theorem dX2_endBehindKind_65 : decode cX2_endBehindKind 65 = .ok (.ireturn, 1) := by decide +kernel
theorem dX2_endBehindKind_66 : decode cX2_endBehindKind 66 = .ok (.bipush 6, 2) := by decide +kernel
theorem dX2_endBehindKind_68 : decode cX2_endBehindKind 68 = .ok (.ireturn, 1) := by decide +kernel
theorem dX2_endBehindKind_69 : decode cX2_endBehindKind 69 = .ok (.bipush 10, 2) := by decide +kernel
theorem dX2_endBehindKind_71 : decode cX2_endBehindKind 71 = .ok (.ireturn, 1) := by decide +kernel
theorem dX2_endBehindKind_72 : decode cX2_endBehindKind 72 = .ok (.bipush 10, 2) := by decide +kernel
theorem dX2_endBehindKind_74 : decode cX2_endBehindKind 74 = .ok (.ireturn, 1) := by decide +kernel
theorem dX2_endBehindKind_75 : decode cX2_endBehindKind 75 = .ok (.iconst (-1), 1) := by decide +kernel
theorem dX2_endBehindKind_76 : decode cX2_endBehindKind 76 = .ok (.ireturn, 1) := by decide +kernel
set_option maxRecDepth 20000 in
theorem ggX2_endBehindFirstDigit_X5_isWithin : GoodIn wsX2_endBehindFirstDigit wsX5_isWithin := goodIn_r _ [3] (by decide +kernel) (by decide +kernel)
set_option maxRecDepth 20000 in
theorem gX2_endBehindFirstDigit_X5_isWithin_n41 : GoodIn wsX2_endBehindFirstDigit (wsX5_isWithin) := ggX2_endBehindFirstDigit_X5_isWithin
theorem dX2_endBehindFirstDigit_0 : decode cX2_endBehindFirstDigit 0 = .ok (.iload_n 0, 1) := by decide +kernel
theorem dX2_endBehindFirstDigit_1 : decode cX2_endBehindFirstDigit 1 = .ok (.bipush 49, 2) := by decide +kernel
theorem dX2_endBehindFirstDigit_3 : decode cX2_endBehindFirstDigit 3 = .ok (.if_icmp .ne 6, 3) := by decide +kernel
theorem dX2_endBehindFirstDigit_6 : decode cX2_endBehindFirstDigit 6 = .ok (.bipush 7, 2) := by decide +kernel
theorem dX2_endBehindFirstDigit_8 : decode cX2_endBehindFirstDigit 8 = .ok (.ireturn, 1) := by decide +kernel
theorem dX2_endBehindFirstDigit_9 : decode cX2_endBehindFirstDigit 9 = .ok (.iload_n 0, 1) := by decide +kernel
theorem dX2_endBehindFirstDigit_10 : decode cX2_endBehindFirstDigit 10 = .ok (.bipush 50, 2) := by decide +kernel
theorem dX2_endBehindFirstDigit_12 : decode cX2_endBehindFirstDigit 12 = .ok (.if_icmp .ne 5, 3) := by decide +kernel
theorem dX2_endBehindFirstDigit_15 : decode cX2_endBehindFirstDigit 15 = .ok (.iload_n 1, 1) := by decide +kernel
theorem dX2_endBehindFirstDigit_16 : decode cX2_endBehindFirstDigit 16 = .ok (.ireturn, 1) := by decide +kernel
theorem dX2_endBehindFirstDigit_17 : decode cX2_endBehindFirstDigit 17 = .ok (.iload_n 0, 1) := by decide +kernel
theorem dX2_endBehindFirstDigit_18 : decode cX2_endBehindFirstDigit 18 = .ok (.bipush 51, 2) := by decide +kernel
theorem dX2_endBehindFirstDigit_20 : decode cX2_endBehindFirstDigit 20 = .ok (.bipush 57, 2) := by decide +kernel
theorem dX2_endBehindFirstDigit_22 : decode cX2_endBehindFirstDigit 22 = .ok (.invokestatic 41, 3) := by decide +kernel
theorem dX2_endBehindFirstDigit_25 : decode cX2_endBehindFirstDigit 25 = .ok (.ifCond .eq 8, 3) := by decide +kernel
theorem dX2_endBehindFirstDigit_28 : decode cX2_endBehindFirstDigit 28 = .ok (.bipush 10, 2) := by decide +kernel
theorem dX2_endBehindFirstDigit_30 : decode cX2_endBehindFirstDigit 30 = .ok (.goto 4, 3) := by decide +kernel
theorem dX2_endBehindFirstDigit_33 : decode cX2_endBehindFirstDigit 33 = .ok (.iconst (-1), 1) := by decide +kernel
theorem dX2_endBehindFirstDigit_34 : decode cX2_endBehindFirstDigit 34 = .ok (.ireturn, 1) := by decide +kernel
set_option maxRecDepth 20000 in
theorem ggX2_endBehindSecondDigit_X5_isWithin : GoodIn wsX2_endBehindSecondDigit wsX5_isWithin := goodIn_r _ [3] (by decide +kernel) (by decide +kernel)
set_option maxRecDepth 20000 in
theorem gX2_endBehindSecondDigit_X5_isWithin_n41 : GoodIn wsX2_endBehindSecondDigit (wsX5_isWithin) := ggX2_endBehindSecondDigit_X5_isWithin
theorem dX2_endBehindSecondDigit_0 : decode cX2_endBehindSecondDigit 0 = .ok (.iload_n 0, 1) := by decide +kernel
theorem dX2_endBehindSecondDigit_1 : decode cX2_endBehindSecondDigit 1 = .ok (.bipush 48, 2) := by decide +kernel
