theorem uw0 : Cond.methodLink RX8 91 yX8_isWithin ∈ wsU := ut2 (List.mem_of_getElem? (i := 28) (by decide +kernel)) rfl
theorem uw1 : Cond.static yX8_isWithin ∈ wsU := ut2 (List.mem_of_getElem? (i := 29) (by decide +kernel)) rfl
theorem uw2 : Cond.initialized yX8_isWithin.cls ∈ wsU := ut1 (List.mem_of_getElem? (i := 1) (by decide +kernel)) rfl
theorem uw3 : Cond.code yX8_isWithin cX8_isWithin 3 (some .boolean) ∈ wsU := ut2 (List.mem_of_getElem? (i := 30) (by decide +kernel)) rfl
theorem uw4 : Cond.constant RX8 154 1000000000 ∈ wsU := ut2 (List.mem_of_getElem? (i := 108) (by decide +kernel)) rfl
theorem uw5 : Cond.fieldLink RX1 9 "LongerBack$Land" "places" "I" ∈ wsU := ut1 (List.mem_of_getElem? (i := 54) (by decide +kernel)) rfl
theorem uw6 : Cond.lays RX1 "LongerBack$Land" "places" "I" ∈ wsU := ut1 (List.mem_of_getElem? (i := 83) (by decide +kernel)) rfl
theorem uw7 : Cond.laysFinal RX1 "LongerBack$Land" "errands" "[I" ∈ wsU := ut1 (List.mem_of_getElem? (i := 85) (by decide +kernel)) rfl
theorem uw8 : Cond.laysFinal RX1 "LongerBack$Land" "low" "[I" ∈ wsU := ut1 (List.mem_of_getElem? (i := 87) (by decide +kernel)) rfl
theorem uw9 : Cond.laysFinal RX1 "LongerBack$Land" "high" "[I" ∈ wsU := ut1 (List.mem_of_getElem? (i := 89) (by decide +kernel)) rfl
theorem uw10 : Cond.laysFinal RX1 "LongerBack$Land" "doors" "[I" ∈ wsU := ut1 (List.mem_of_getElem? (i := 91) (by decide +kernel)) rfl
theorem uw11 : Cond.laysFinal RX1 "LongerBack$Land" "rounds" "LLongerBack$Rows;" ∈ wsU := ut1 (List.mem_of_getElem? (i := 93) (by decide +kernel)) rfl
theorem uw12 : Cond.laysFinal RX1 "LongerBack$Land" "kinds" "[I" ∈ wsU := ut1 (List.mem_of_getElem? (i := 95) (by decide +kernel)) rfl
theorem uw13 : Cond.laysFinal RX1 "LongerBack$Land" "walks" "LLongerBack$Rows;" ∈ wsU := ut1 (List.mem_of_getElem? (i := 97) (by decide +kernel)) rfl
theorem uw14 : Cond.laysFinal RX1 "LongerBack$Land" "totals" "[I" ∈ wsU := ut1 (List.mem_of_getElem? (i := 99) (by decide +kernel)) rfl
theorem uw15 : Cond.laysFinal RX1 "LongerBack$Land" "slacks" "[I" ∈ wsU := ut1 (List.mem_of_getElem? (i := 101) (by decide +kernel)) rfl
theorem uw16 : Cond.methodLink RX1 57 yX1_isPlace ∈ wsU := ut2 (List.mem_of_getElem? (i := 39) (by decide +kernel)) rfl
theorem uw17 : Cond.instanceMethod yX1_isPlace ∈ wsU := ut2 (List.mem_of_getElem? (i := 25) (by decide +kernel)) rfl
theorem uw18 : Cond.selects RX1 yX1_isPlace yX1_isPlace ∈ wsU := ut2 (List.mem_of_getElem? (i := 26) (by decide +kernel)) rfl
theorem uw19 : Cond.initialized RX1 ∈ wsU := ut1 (List.mem_of_getElem? (i := 2) (by decide +kernel)) rfl
theorem uw20 : Cond.code yX1_isPlace cX1_isPlace 3 (some .boolean) ∈ wsU := ut2 (List.mem_of_getElem? (i := 27) (by decide +kernel)) rfl
theorem uw21 : Cond.fieldLink RX1 25 "LongerBack$Land" "doors" "[I" ∈ wsU := ut1 (List.mem_of_getElem? (i := 66) (by decide +kernel)) rfl
theorem uw22 : Cond.methodLink RX1 61 yX1_wayAt ∈ wsU := ut2 (List.mem_of_getElem? (i := 47) (by decide +kernel)) rfl
theorem uw23 : Cond.static yX1_wayAt ∈ wsU := ut2 (List.mem_of_getElem? (i := 48) (by decide +kernel)) rfl
theorem uw24 : Cond.initialized yX1_wayAt.cls ∈ wsU := ut1 (List.mem_of_getElem? (i := 2) (by decide +kernel)) rfl
theorem uw25 : Cond.code yX1_wayAt cX1_wayAt 2 (some .int) ∈ wsU := ut2 (List.mem_of_getElem? (i := 49) (by decide +kernel)) rfl
theorem uw26 : Cond.fieldLink RX1 19 "LongerBack$Land" "low" "[I" ∈ wsU := ut1 (List.mem_of_getElem? (i := 62) (by decide +kernel)) rfl
theorem uw27 : Cond.fieldLink RX1 22 "LongerBack$Land" "high" "[I" ∈ wsU := ut1 (List.mem_of_getElem? (i := 64) (by decide +kernel)) rfl
theorem uw28 : Cond.methodLink RX1 65 yX1_isOpen ∈ wsU := ut3 (List.mem_of_getElem? (i := 78) (by decide +kernel)) rfl
theorem uw29 : Cond.instanceMethod yX1_isOpen ∈ wsU := ut2 (List.mem_of_getElem? (i := 68) (by decide +kernel)) rfl
theorem uw30 : Cond.selects RX1 yX1_isOpen yX1_isOpen ∈ wsU := ut2 (List.mem_of_getElem? (i := 69) (by decide +kernel)) rfl
theorem uw31 : Cond.code yX1_isOpen cX1_isOpen 3 (some .boolean) ∈ wsU := ut2 (List.mem_of_getElem? (i := 70) (by decide +kernel)) rfl
theorem uw32 : Cond.fieldLink RX1 15 "LongerBack$Land" "errands" "[I" ∈ wsU := ut1 (List.mem_of_getElem? (i := 59) (by decide +kernel)) rfl
theorem uw33 : Cond.fieldLink RX3 9 "LongerBack$Rows" "count" "I" ∈ wsU := ut1 (List.mem_of_getElem? (i := 37) (by decide +kernel)) rfl
theorem uw34 : Cond.lays RX3 "LongerBack$Rows" "count" "I" ∈ wsU := ut1 (List.mem_of_getElem? (i := 46) (by decide +kernel)) rfl
theorem uw35 : Cond.laysFinal RX3 "LongerBack$Rows" "lengths" "[I" ∈ wsU := ut1 (List.mem_of_getElem? (i := 48) (by decide +kernel)) rfl
theorem uw36 : Cond.laysFinal RX3 "LongerBack$Rows" "stops" "[I" ∈ wsU := ut1 (List.mem_of_getElem? (i := 50) (by decide +kernel)) rfl
theorem uw37 : Cond.fieldLink RX3 15 "LongerBack$Rows" "lengths" "[I" ∈ wsU := ut1 (List.mem_of_getElem? (i := 40) (by decide +kernel)) rfl
theorem uw38 : Cond.fieldLink RX3 19 "LongerBack$Rows" "stops" "[I" ∈ wsU := ut1 (List.mem_of_getElem? (i := 45) (by decide +kernel)) rfl
theorem uw39 : Cond.methodLink RX3 22 yX3_append ∈ wsU := ut2 (List.mem_of_getElem? (i := 183) (by decide +kernel)) rfl
theorem uw40 : Cond.instanceMethod yX3_append ∈ wsU := ut2 (List.mem_of_getElem? (i := 184) (by decide +kernel)) rfl
theorem uw41 : Cond.selects RX3 yX3_append yX3_append ∈ wsU := ut2 (List.mem_of_getElem? (i := 185) (by decide +kernel)) rfl
theorem uw42 : Cond.initialized RX3 ∈ wsU := ut1 (List.mem_of_getElem? (i := 3) (by decide +kernel)) rfl
theorem uw43 : Cond.code yX3_append cX3_append 3 (some .int) ∈ wsU := ut2 (List.mem_of_getElem? (i := 186) (by decide +kernel)) rfl
theorem uw44 : Cond.methodLink RX3 26 yX3_stop ∈ wsU := ut3 (List.mem_of_getElem? (i := 11) (by decide +kernel)) rfl
theorem uw45 : Cond.instanceMethod yX3_stop ∈ wsU := ut2 (List.mem_of_getElem? (i := 212) (by decide +kernel)) rfl
theorem uw46 : Cond.selects RX3 yX3_stop yX3_stop ∈ wsU := ut2 (List.mem_of_getElem? (i := 213) (by decide +kernel)) rfl
theorem uw47 : Cond.code yX3_stop cX3_stop 3 (some .int) ∈ wsU := ut2 (List.mem_of_getElem? (i := 214) (by decide +kernel)) rfl
theorem uw48 : Cond.methodLink RX3 29 arraycopyName ∈ wsU := ut3 (List.mem_of_getElem? (i := 164) (by decide +kernel)) rfl
theorem uw49 : Cond.native arraycopyName ∈ wsU := ut3 (List.mem_of_getElem? (i := 159) (by decide +kernel)) rfl
theorem uw50 : Cond.static arraycopyName ∈ wsU := ut3 (List.mem_of_getElem? (i := 158) (by decide +kernel)) rfl
theorem uw51 : Cond.initialized "java/lang/System" ∈ wsU := ut1 (List.mem_of_getElem? (i := 12) (by decide +kernel)) rfl
theorem uw52 : Cond.constant RX1 73 1000000000 ∈ wsU := ut3 (List.mem_of_getElem? (i := 223) (by decide +kernel)) rfl
theorem uw53 : Cond.methodLink RX1 74 yX1_lowOf ∈ wsU := ut3 (List.mem_of_getElem? (i := 224) (by decide +kernel)) rfl
theorem uw54 : Cond.instanceMethod yX1_lowOf ∈ wsU := ut2 (List.mem_of_getElem? (i := 60) (by decide +kernel)) rfl
theorem uw55 : Cond.selects RX1 yX1_lowOf yX1_lowOf ∈ wsU := ut2 (List.mem_of_getElem? (i := 61) (by decide +kernel)) rfl
theorem uw56 : Cond.code yX1_lowOf cX1_lowOf 3 (some .int) ∈ wsU := ut2 (List.mem_of_getElem? (i := 62) (by decide +kernel)) rfl
theorem uw57 : Cond.methodLink RX1 77 yX1_nearestOf ∈ wsU := ut3 (List.mem_of_getElem? (i := 219) (by decide +kernel)) rfl
theorem uw58 : Cond.instanceMethod yX1_nearestOf ∈ wsU := ut3 (List.mem_of_getElem? (i := 221) (by decide +kernel)) rfl
theorem uw59 : Cond.selects RX1 yX1_nearestOf yX1_nearestOf ∈ wsU := us_sel (q := (yX1_nearestOf, 10)) (List.mem_of_getElem? (i := 14) (by decide +kernel)) rfl
theorem uw60 : Cond.code yX1_nearestOf cX1_nearestOf 5 (some .int) ∈ wsU := ut3 (List.mem_of_getElem? (i := 222) (by decide +kernel)) rfl
theorem uw61 : Cond.methodLink RX1 80 yX1_comesTo ∈ wsU := ut3 (List.mem_of_getElem? (i := 233) (by decide +kernel)) rfl
theorem uw62 : Cond.instanceMethod yX1_comesTo ∈ wsU := ut3 (List.mem_of_getElem? (i := 216) (by decide +kernel)) rfl
theorem uw63 : Cond.selects RX1 yX1_comesTo yX1_comesTo ∈ wsU := ut3 (List.mem_of_getElem? (i := 217) (by decide +kernel)) rfl
theorem uw64 : Cond.code yX1_comesTo cX1_comesTo 5 (some .int) ∈ wsU := ut3 (List.mem_of_getElem? (i := 218) (by decide +kernel)) rfl
theorem uw65 : Cond.fieldLink RX1 31 "LongerBack$Land" "rounds" "LLongerBack$Rows;" ∈ wsU := ut1 (List.mem_of_getElem? (i := 67) (by decide +kernel)) rfl
theorem uw66 : Cond.methodLink RX1 69 yX3_begin ∈ wsU := ut2 (List.mem_of_getElem? (i := 179) (by decide +kernel)) rfl
theorem uw67 : Cond.instanceMethod yX3_begin ∈ wsU := ut2 (List.mem_of_getElem? (i := 180) (by decide +kernel)) rfl
theorem uw68 : Cond.selects RX3 yX3_begin yX3_begin ∈ wsU := ut2 (List.mem_of_getElem? (i := 181) (by decide +kernel)) rfl
theorem uw69 : Cond.code yX3_begin cX3_begin 3 (some .int) ∈ wsU := ut2 (List.mem_of_getElem? (i := 182) (by decide +kernel)) rfl
theorem uw70 : Cond.fieldLink RX1 35 "LongerBack$Land" "kinds" "[I" ∈ wsU := ut1 (List.mem_of_getElem? (i := 70) (by decide +kernel)) rfl
theorem uw71 : Cond.fieldLink RX1 38 "LongerBack$Land" "walks" "LLongerBack$Rows;" ∈ wsU := ut1 (List.mem_of_getElem? (i := 73) (by decide +kernel)) rfl
theorem uw72 : Cond.fieldLink RX1 41 "LongerBack$Land" "totals" "[I" ∈ wsU := ut1 (List.mem_of_getElem? (i := 77) (by decide +kernel)) rfl
theorem uw73 : Cond.fieldLink RX1 44 "LongerBack$Land" "slacks" "[I" ∈ wsU := ut1 (List.mem_of_getElem? (i := 80) (by decide +kernel)) rfl
theorem uw74 : Cond.fieldLink RX0 15 "LongerBack$Atlas" "lengths" "[I" ∈ wsU := ut1 (List.mem_of_getElem? (i := 111) (by decide +kernel)) rfl
theorem uw75 : Cond.lays RX0 "LongerBack$Atlas" "places" "I" ∈ wsU := ut1 (List.mem_of_getElem? (i := 112) (by decide +kernel)) rfl
theorem uw76 : Cond.laysFinal RX0 "LongerBack$Atlas" "lengths" "[I" ∈ wsU := ut1 (List.mem_of_getElem? (i := 114) (by decide +kernel)) rfl
theorem uw77 : Cond.methodLink RX0 30 yX1_isOpen ∈ wsU := ut2 (List.mem_of_getElem? (i := 94) (by decide +kernel)) rfl
theorem uw78 : Cond.methodLink RX0 34 yX1_lowOf ∈ wsU := ut2 (List.mem_of_getElem? (i := 95) (by decide +kernel)) rfl
theorem uw79 : Cond.constant RX0 38 1000000000 ∈ wsU := ut2 (List.mem_of_getElem? (i := 96) (by decide +kernel)) rfl
theorem uw80 : Cond.fieldLink RX0 9 "LongerBack$Atlas" "places" "I" ∈ wsU := ut1 (List.mem_of_getElem? (i := 110) (by decide +kernel)) rfl
theorem uw81 : Cond.methodLink RX0 39 yX0_lengthOf ∈ wsU := ut2 (List.mem_of_getElem? (i := 101) (by decide +kernel)) rfl
theorem uw82 : Cond.instanceMethod yX0_lengthOf ∈ wsU := ut2 (List.mem_of_getElem? (i := 103) (by decide +kernel)) rfl
theorem uw83 : Cond.selects RX0 yX0_lengthOf yX0_lengthOf ∈ wsU := us_sel (q := (yX0_lengthOf, 2)) (List.mem_of_getElem? (i := 3) (by decide +kernel)) rfl
theorem uw84 : Cond.initialized RX0 ∈ wsU := ut1 (List.mem_of_getElem? (i := 4) (by decide +kernel)) rfl
theorem uw85 : Cond.code yX0_lengthOf cX0_lengthOf 3 (some .int) ∈ wsU := ut2 (List.mem_of_getElem? (i := 104) (by decide +kernel)) rfl
theorem uw86 : Cond.static yX8_together ∈ wsU := ut2 (List.mem_of_getElem? (i := 106) (by decide +kernel)) rfl
theorem uw87 : Cond.initialized yX8_together.cls ∈ wsU := ut1 (List.mem_of_getElem? (i := 1) (by decide +kernel)) rfl
theorem uw88 : Cond.code yX8_together cX8_together 2 (some .int) ∈ wsU := ut2 (List.mem_of_getElem? (i := 107) (by decide +kernel)) rfl
theorem uw89 : Cond.constant RX0 45 (-100000000) ∈ wsU := ut2 (List.mem_of_getElem? (i := 109) (by decide +kernel)) rfl
theorem uw90 : Cond.methodLink RX0 46 Lib.Math.max.name ∈ wsU := ut2 (List.mem_of_getElem? (i := 110) (by decide +kernel)) rfl
theorem uw91 : Cond.static Lib.Math.max.name ∈ wsU := ut2 (List.mem_of_getElem? (i := 111) (by decide +kernel)) rfl
theorem uw92 : Cond.initialized "java/lang/Math" ∈ wsU := ut1 (List.mem_of_getElem? (i := 11) (by decide +kernel)) rfl
theorem uw93 : Cond.code Lib.Math.max.name Lib.Math.max.code 2 (some .int) ∈ wsU := ut2 (List.mem_of_getElem? (i := 112) (by decide +kernel)) rfl
theorem uw94 : Cond.fieldLink RX0 19 "LongerBack$Land" "places" "I" ∈ wsU := ut1 (List.mem_of_getElem? (i := 55) (by decide +kernel)) rfl
theorem uw95 : Cond.methodLink RX0 26 yX0_shortenOver ∈ wsU := ut2 (List.mem_of_getElem? (i := 97) (by decide +kernel)) rfl
theorem uw96 : Cond.instanceMethod yX0_shortenOver ∈ wsU := ut2 (List.mem_of_getElem? (i := 99) (by decide +kernel)) rfl
theorem uw97 : Cond.selects RX0 yX0_shortenOver yX0_shortenOver ∈ wsU := us_sel (q := (yX0_shortenOver, 2)) (List.mem_of_getElem? (i := 2) (by decide +kernel)) rfl
theorem uw98 : Cond.code yX0_shortenOver cX0_shortenOver 6 none ∈ wsU := ut2 (List.mem_of_getElem? (i := 100) (by decide +kernel)) rfl
theorem uw99 : Cond.methodLink RX0 22 yX0_oneWay ∈ wsU := ut2 (List.mem_of_getElem? (i := 91) (by decide +kernel)) rfl
theorem uw100 : Cond.static yX0_oneWay ∈ wsU := ut2 (List.mem_of_getElem? (i := 92) (by decide +kernel)) rfl
theorem uw101 : Cond.initialized yX0_oneWay.cls ∈ wsU := ut1 (List.mem_of_getElem? (i := 4) (by decide +kernel)) rfl
theorem uw102 : Cond.code yX0_oneWay cX0_oneWay 3 (some .int) ∈ wsU := ut2 (List.mem_of_getElem? (i := 93) (by decide +kernel)) rfl
theorem uw103 : Cond.methodLink RX0 51 yX0_isBackAndForth ∈ wsU := ut2 (List.mem_of_getElem? (i := 156) (by decide +kernel)) rfl
theorem uw104 : Cond.instanceMethod yX0_isBackAndForth ∈ wsU := ut2 (List.mem_of_getElem? (i := 158) (by decide +kernel)) rfl
theorem uw105 : Cond.selects RX0 yX0_isBackAndForth yX0_isBackAndForth ∈ wsU := us_sel (q := (yX0_isBackAndForth, 2)) (List.mem_of_getElem? (i := 6) (by decide +kernel)) rfl
theorem uw106 : Cond.code yX0_isBackAndForth cX0_isBackAndForth 3 (some .boolean) ∈ wsU := ut2 (List.mem_of_getElem? (i := 159) (by decide +kernel)) rfl
theorem uw107 : Cond.methodLink RX0 54 yJ9_floorDiv_7cf53 ∈ wsU := ut2 (List.mem_of_getElem? (i := 122) (by decide +kernel)) rfl
theorem uw108 : Cond.static yJ9_floorDiv_7cf53 ∈ wsU := ut2 (List.mem_of_getElem? (i := 123) (by decide +kernel)) rfl
theorem uw109 : Cond.initialized yJ9_floorDiv_7cf53.cls ∈ wsU := ut1 (List.mem_of_getElem? (i := 11) (by decide +kernel)) rfl
theorem uw110 : Cond.code yJ9_floorDiv_7cf53 cJ9_floorDiv_7cf53 3 (some .int) ∈ wsU := ut2 (List.mem_of_getElem? (i := 124) (by decide +kernel)) rfl
theorem uw111 : Cond.methodLink RX0 57 yJ9_floorMod_7cf53 ∈ wsU := ut2 (List.mem_of_getElem? (i := 137) (by decide +kernel)) rfl
theorem uw112 : Cond.static yJ9_floorMod_7cf53 ∈ wsU := ut2 (List.mem_of_getElem? (i := 138) (by decide +kernel)) rfl
theorem uw113 : Cond.initialized yJ9_floorMod_7cf53.cls ∈ wsU := ut1 (List.mem_of_getElem? (i := 11) (by decide +kernel)) rfl
theorem uw114 : Cond.code yJ9_floorMod_7cf53 cJ9_floorMod_7cf53 3 (some .int) ∈ wsU := ut2 (List.mem_of_getElem? (i := 139) (by decide +kernel)) rfl
theorem uw115 : Cond.methodLink RX0 60 yX0_nextStop ∈ wsU := ut2 (List.mem_of_getElem? (i := 144) (by decide +kernel)) rfl
theorem uw116 : Cond.instanceMethod yX0_nextStop ∈ wsU := ut2 (List.mem_of_getElem? (i := 146) (by decide +kernel)) rfl
theorem uw117 : Cond.selects RX0 yX0_nextStop yX0_nextStop ∈ wsU := us_sel (q := (yX0_nextStop, 2)) (List.mem_of_getElem? (i := 5) (by decide +kernel)) rfl
theorem uw118 : Cond.code yX0_nextStop cX0_nextStop 5 (some .int) ∈ wsU := ut2 (List.mem_of_getElem? (i := 147) (by decide +kernel)) rfl
theorem uw119 : Cond.fieldLink RX0 63 "LongerBack$Land" "errands" "[I" ∈ wsU := ut1 (List.mem_of_getElem? (i := 61) (by decide +kernel)) rfl
theorem uw120 : Cond.methodLink RX0 66 yX0_farOf ∈ wsU := ut3 (List.mem_of_getElem? (i := 20) (by decide +kernel)) rfl
theorem uw121 : Cond.instanceMethod yX0_farOf ∈ wsU := ut2 (List.mem_of_getElem? (i := 119) (by decide +kernel)) rfl
theorem uw122 : Cond.selects RX0 yX0_farOf yX0_farOf ∈ wsU := ut2 (List.mem_of_getElem? (i := 120) (by decide +kernel)) rfl
theorem uw123 : Cond.code yX0_farOf cX0_farOf 4 (some .int) ∈ wsU := ut2 (List.mem_of_getElem? (i := 121) (by decide +kernel)) rfl
theorem uw124 : Cond.methodLink RX0 69 yX0_tripOf ∈ wsU := ut3 (List.mem_of_getElem? (i := 48) (by decide +kernel)) rfl
theorem uw125 : Cond.instanceMethod yX0_tripOf ∈ wsU := ut3 (List.mem_of_getElem? (i := 49) (by decide +kernel)) rfl
theorem uw126 : Cond.selects RX0 yX0_tripOf yX0_tripOf ∈ wsU := ut3 (List.mem_of_getElem? (i := 50) (by decide +kernel)) rfl
theorem uw127 : Cond.code yX0_tripOf cX0_tripOf 6 (some .int) ∈ wsU := ut3 (List.mem_of_getElem? (i := 51) (by decide +kernel)) rfl
theorem uw128 : Cond.methodLink RX0 73 yX0_homeOf ∈ wsU := ut3 (List.mem_of_getElem? (i := 202) (by decide +kernel)) rfl
theorem uw129 : Cond.instanceMethod yX0_homeOf ∈ wsU := ut3 (List.mem_of_getElem? (i := 45) (by decide +kernel)) rfl
theorem uw130 : Cond.selects RX0 yX0_homeOf yX0_homeOf ∈ wsU := ut3 (List.mem_of_getElem? (i := 46) (by decide +kernel)) rfl
theorem uw131 : Cond.code yX0_homeOf cX0_homeOf 6 (some .int) ∈ wsU := ut3 (List.mem_of_getElem? (i := 47) (by decide +kernel)) rfl
theorem uw132 : Cond.methodLink RX0 77 yX0_priceOf ∈ wsU := ut3 (List.mem_of_getElem? (i := 16) (by decide +kernel)) rfl
theorem uw133 : Cond.instanceMethod yX0_priceOf ∈ wsU := ut3 (List.mem_of_getElem? (i := 17) (by decide +kernel)) rfl
theorem uw134 : Cond.selects RX0 yX0_priceOf yX0_priceOf ∈ wsU := ut3 (List.mem_of_getElem? (i := 18) (by decide +kernel)) rfl
theorem uw135 : Cond.code yX0_priceOf cX0_priceOf 8 (some .int) ∈ wsU := ut3 (List.mem_of_getElem? (i := 19) (by decide +kernel)) rfl
theorem uw136 : Cond.methodLink RX0 81 Lib.Math.min.name ∈ wsU := ut3 (List.mem_of_getElem? (i := 197) (by decide +kernel)) rfl
theorem uw137 : Cond.static Lib.Math.min.name ∈ wsU := ut3 (List.mem_of_getElem? (i := 2) (by decide +kernel)) rfl
theorem uw138 : Cond.code Lib.Math.min.name Lib.Math.min.code 2 (some .int) ∈ wsU := ut3 (List.mem_of_getElem? (i := 3) (by decide +kernel)) rfl
theorem uw139 : Cond.fieldLink RX6 44 "LongerBack$Rows" "lengths" "[I" ∈ wsU := ut1 (List.mem_of_getElem? (i := 42) (by decide +kernel)) rfl
theorem uw140 : Cond.methodLink RX6 49 yX3_stop ∈ wsU := ut2 (List.mem_of_getElem? (i := 211) (by decide +kernel)) rfl
theorem uw141 : Cond.methodLink RX6 53 yX6_stopBehind ∈ wsU := ut2 (List.mem_of_getElem? (i := 215) (by decide +kernel)) rfl
theorem uw142 : Cond.static yX6_stopBehind ∈ wsU := ut2 (List.mem_of_getElem? (i := 216) (by decide +kernel)) rfl
theorem uw143 : Cond.initialized yX6_stopBehind.cls ∈ wsU := ut1 (List.mem_of_getElem? (i := 5) (by decide +kernel)) rfl
theorem uw144 : Cond.code yX6_stopBehind cX6_stopBehind 3 (some .int) ∈ wsU := ut2 (List.mem_of_getElem? (i := 217) (by decide +kernel)) rfl
theorem uw145 : Cond.methodLink RX6 57 yX0_farOf ∈ wsU := ut2 (List.mem_of_getElem? (i := 218) (by decide +kernel)) rfl
theorem uw146 : Cond.methodLink RX6 69 yX1_isOpen ∈ wsU := ut2 (List.mem_of_getElem? (i := 226) (by decide +kernel)) rfl
theorem uw147 : Cond.methodLink RX6 73 yX1_lowOf ∈ wsU := ut2 (List.mem_of_getElem? (i := 227) (by decide +kernel)) rfl
theorem uw148 : Cond.constant RX6 43 1000000000 ∈ wsU := ut2 (List.mem_of_getElem? (i := 228) (by decide +kernel)) rfl
theorem uw149 : Cond.fieldLink RX6 20 "LongerBack$Land" "rounds" "LLongerBack$Rows;" ∈ wsU := ut1 (List.mem_of_getElem? (i := 68) (by decide +kernel)) rfl
theorem uw150 : Cond.methodLink RX6 65 yX6_toldWay ∈ wsU := ut2 (List.mem_of_getElem? (i := 223) (by decide +kernel)) rfl
theorem uw151 : Cond.static yX6_toldWay ∈ wsU := ut2 (List.mem_of_getElem? (i := 224) (by decide +kernel)) rfl
theorem uw152 : Cond.initialized yX6_toldWay.cls ∈ wsU := ut1 (List.mem_of_getElem? (i := 5) (by decide +kernel)) rfl
theorem uw153 : Cond.code yX6_toldWay cX6_toldWay 3 (some .int) ∈ wsU := ut2 (List.mem_of_getElem? (i := 225) (by decide +kernel)) rfl
theorem uw154 : Cond.methodLink RX6 76 yX3_lastStop ∈ wsU := ut3 (List.mem_of_getElem? (i := 7) (by decide +kernel)) rfl
theorem uw155 : Cond.instanceMethod yX3_lastStop ∈ wsU := ut3 (List.mem_of_getElem? (i := 8) (by decide +kernel)) rfl
theorem uw156 : Cond.selects RX3 yX3_lastStop yX3_lastStop ∈ wsU := ut3 (List.mem_of_getElem? (i := 9) (by decide +kernel)) rfl
theorem uw157 : Cond.code yX3_lastStop cX3_lastStop 2 (some .int) ∈ wsU := ut3 (List.mem_of_getElem? (i := 10) (by decide +kernel)) rfl
theorem uw158 : Cond.methodLink RX6 80 yX0_meetingOf ∈ wsU := ut3 (List.mem_of_getElem? (i := 12) (by decide +kernel)) rfl
theorem uw159 : Cond.instanceMethod yX0_meetingOf ∈ wsU := ut3 (List.mem_of_getElem? (i := 13) (by decide +kernel)) rfl
theorem uw160 : Cond.selects RX0 yX0_meetingOf yX0_meetingOf ∈ wsU := ut3 (List.mem_of_getElem? (i := 14) (by decide +kernel)) rfl
theorem uw161 : Cond.code yX0_meetingOf cX0_meetingOf 8 (some .int) ∈ wsU := ut3 (List.mem_of_getElem? (i := 15) (by decide +kernel)) rfl
theorem uw162 : Cond.methodLink RX6 84 yX0_priceOf ∈ wsU := ut3 (List.mem_of_getElem? (i := 21) (by decide +kernel)) rfl
theorem uw163 : Cond.fieldLink RX6 9 "LongerBack$Sums" "least" "[I" ∈ wsU := ut1 (List.mem_of_getElem? (i := 123) (by decide +kernel)) rfl
theorem uw164 : Cond.laysFinal RX6 "LongerBack$Sums" "least" "[I" ∈ wsU := ut1 (List.mem_of_getElem? (i := 124) (by decide +kernel)) rfl
theorem uw165 : Cond.methodLink RX6 92 Lib.Math.min.name ∈ wsU := ut3 (List.mem_of_getElem? (i := 1) (by decide +kernel)) rfl
theorem uw166 : Cond.methodLink RX6 97 yX6_goOnFrom ∈ wsU := ut2 (List.mem_of_getElem? (i := 237) (by decide +kernel)) rfl
theorem uw167 : Cond.instanceMethod yX6_goOnFrom ∈ wsU := ut2 (List.mem_of_getElem? (i := 239) (by decide +kernel)) rfl
theorem uw168 : Cond.selects RX6 yX6_goOnFrom yX6_goOnFrom ∈ wsU := us_sel (q := (yX6_goOnFrom, 1)) (List.mem_of_getElem? (i := 9) (by decide +kernel)) rfl
theorem uw169 : Cond.initialized RX6 ∈ wsU := ut1 (List.mem_of_getElem? (i := 5) (by decide +kernel)) rfl
theorem uw170 : Cond.code yX6_goOnFrom cX6_goOnFrom 10 none ∈ wsU := ut3 (List.mem_of_getElem? (i := 0) (by decide +kernel)) rfl
theorem uw171 : Cond.methodLink RX6 88 yX6_orderStops ∈ wsU := ut2 (List.mem_of_getElem? (i := 233) (by decide +kernel)) rfl
theorem uw172 : Cond.instanceMethod yX6_orderStops ∈ wsU := ut2 (List.mem_of_getElem? (i := 235) (by decide +kernel)) rfl
theorem uw173 : Cond.selects RX6 yX6_orderStops yX6_orderStops ∈ wsU := us_sel (q := (yX6_orderStops, 1)) (List.mem_of_getElem? (i := 8) (by decide +kernel)) rfl
theorem uw174 : Cond.code yX6_orderStops cX6_orderStops 7 none ∈ wsU := ut2 (List.mem_of_getElem? (i := 236) (by decide +kernel)) rfl
theorem uw175 : Cond.fieldLink RX6 15 "LongerBack$Land" "kinds" "[I" ∈ wsU := ut1 (List.mem_of_getElem? (i := 71) (by decide +kernel)) rfl
theorem uw176 : Cond.methodLink RX6 24 yX6_roundSum ∈ wsU := ut2 (List.mem_of_getElem? (i := 208) (by decide +kernel)) rfl
theorem uw177 : Cond.static yX6_roundSum ∈ wsU := ut2 (List.mem_of_getElem? (i := 209) (by decide +kernel)) rfl
theorem uw178 : Cond.initialized yX6_roundSum.cls ∈ wsU := ut1 (List.mem_of_getElem? (i := 5) (by decide +kernel)) rfl
theorem uw179 : Cond.code yX6_roundSum cX6_roundSum 5 (some .int) ∈ wsU := ut2 (List.mem_of_getElem? (i := 210) (by decide +kernel)) rfl
theorem uw180 : Cond.methodLink RX6 28 yX6_toldSum ∈ wsU := ut2 (List.mem_of_getElem? (i := 220) (by decide +kernel)) rfl
theorem uw181 : Cond.static yX6_toldSum ∈ wsU := ut2 (List.mem_of_getElem? (i := 221) (by decide +kernel)) rfl
theorem uw182 : Cond.initialized yX6_toldSum.cls ∈ wsU := ut1 (List.mem_of_getElem? (i := 5) (by decide +kernel)) rfl
theorem uw183 : Cond.code yX6_toldSum cX6_toldSum 7 (some .int) ∈ wsU := ut2 (List.mem_of_getElem? (i := 222) (by decide +kernel)) rfl
theorem uw184 : Cond.methodLink RX6 32 yX6_bestSum ∈ wsU := ut2 (List.mem_of_getElem? (i := 229) (by decide +kernel)) rfl
theorem uw185 : Cond.instanceMethod yX6_bestSum ∈ wsU := ut2 (List.mem_of_getElem? (i := 231) (by decide +kernel)) rfl
theorem uw186 : Cond.selects RX6 yX6_bestSum yX6_bestSum ∈ wsU := us_sel (q := (yX6_bestSum, 1)) (List.mem_of_getElem? (i := 7) (by decide +kernel)) rfl
theorem uw187 : Cond.code yX6_bestSum cX6_bestSum 9 (some .int) ∈ wsU := ut2 (List.mem_of_getElem? (i := 232) (by decide +kernel)) rfl
theorem uw188 : Cond.methodLink RX6 36 yX6_meetSum ∈ wsU := ut3 (List.mem_of_getElem? (i := 4) (by decide +kernel)) rfl
theorem uw189 : Cond.static yX6_meetSum ∈ wsU := ut3 (List.mem_of_getElem? (i := 5) (by decide +kernel)) rfl
theorem uw190 : Cond.initialized yX6_meetSum.cls ∈ wsU := ut1 (List.mem_of_getElem? (i := 5) (by decide +kernel)) rfl
theorem uw191 : Cond.code yX6_meetSum cX6_meetSum 6 (some .int) ∈ wsU := ut3 (List.mem_of_getElem? (i := 6) (by decide +kernel)) rfl
theorem uw192 : Cond.methodLink RX6 40 yX6_pairsSum ∈ wsU := ut3 (List.mem_of_getElem? (i := 22) (by decide +kernel)) rfl
theorem uw193 : Cond.static yX6_pairsSum ∈ wsU := ut3 (List.mem_of_getElem? (i := 23) (by decide +kernel)) rfl
theorem uw194 : Cond.initialized yX6_pairsSum.cls ∈ wsU := ut1 (List.mem_of_getElem? (i := 5) (by decide +kernel)) rfl
theorem uw195 : Cond.code yX6_pairsSum cX6_pairsSum 7 (some .int) ∈ wsU := ut3 (List.mem_of_getElem? (i := 24) (by decide +kernel)) rfl
theorem uw196 : Cond.methodLink RX5 40 yX1_lowOf ∈ wsU := ut3 (List.mem_of_getElem? (i := 82) (by decide +kernel)) rfl
theorem uw197 : Cond.fieldLink RX5 22 "LongerBack$Land" "places" "I" ∈ wsU := ut1 (List.mem_of_getElem? (i := 57) (by decide +kernel)) rfl
theorem uw198 : Cond.methodLink RX5 32 yX1_areBothWays ∈ wsU := ut3 (List.mem_of_getElem? (i := 74) (by decide +kernel)) rfl
theorem uw199 : Cond.instanceMethod yX1_areBothWays ∈ wsU := ut3 (List.mem_of_getElem? (i := 75) (by decide +kernel)) rfl
theorem uw200 : Cond.selects RX1 yX1_areBothWays yX1_areBothWays ∈ wsU := ut3 (List.mem_of_getElem? (i := 76) (by decide +kernel)) rfl
theorem uw201 : Cond.code yX1_areBothWays cX1_areBothWays 3 (some .boolean) ∈ wsU := ut3 (List.mem_of_getElem? (i := 77) (by decide +kernel)) rfl
theorem uw202 : Cond.methodLink RX5 44 yX5_paperOf ∈ wsU := ut3 (List.mem_of_getElem? (i := 106) (by decide +kernel)) rfl
theorem uw203 : Cond.static yX5_paperOf ∈ wsU := ut3 (List.mem_of_getElem? (i := 97) (by decide +kernel)) rfl
theorem uw204 : Cond.initialized yX5_paperOf.cls ∈ wsU := ut1 (List.mem_of_getElem? (i := 6) (by decide +kernel)) rfl
theorem uw205 : Cond.code yX5_paperOf cX5_paperOf 3 (some .int) ∈ wsU := ut3 (List.mem_of_getElem? (i := 98) (by decide +kernel)) rfl
theorem uw206 : Cond.methodLink RX5 47 Lib.Math.abs.name ∈ wsU := ut3 (List.mem_of_getElem? (i := 107) (by decide +kernel)) rfl
theorem uw207 : Cond.static Lib.Math.abs.name ∈ wsU := ut3 (List.mem_of_getElem? (i := 108) (by decide +kernel)) rfl
theorem uw208 : Cond.code Lib.Math.abs.name Lib.Math.abs.code 1 (some .int) ∈ wsU := ut3 (List.mem_of_getElem? (i := 109) (by decide +kernel)) rfl
theorem uw209 : Cond.methodLink RX5 53 Lib.Math.max.name ∈ wsU := ut3 (List.mem_of_getElem? (i := 110) (by decide +kernel)) rfl
theorem uw210 : Cond.fieldLink RX5 9 "LongerBack$Slopes" "heights" "[I" ∈ wsU := ut1 (List.mem_of_getElem? (i := 133) (by decide +kernel)) rfl
theorem uw211 : Cond.laysFinal RX5 "LongerBack$Slopes" "heights" "[I" ∈ wsU := ut1 (List.mem_of_getElem? (i := 137) (by decide +kernel)) rfl
theorem uw212 : Cond.laysFinal RX5 "LongerBack$Slopes" "isClimbed" "[Z" ∈ wsU := ut1 (List.mem_of_getElem? (i := 139) (by decide +kernel)) rfl
theorem uw213 : Cond.laysFinal RX5 "LongerBack$Slopes" "queue" "[I" ∈ wsU := ut1 (List.mem_of_getElem? (i := 141) (by decide +kernel)) rfl
theorem uw214 : Cond.methodLink RX5 36 yX5_riseOf ∈ wsU := ut3 (List.mem_of_getElem? (i := 79) (by decide +kernel)) rfl
theorem uw215 : Cond.static yX5_riseOf ∈ wsU := ut3 (List.mem_of_getElem? (i := 80) (by decide +kernel)) rfl
theorem uw216 : Cond.initialized yX5_riseOf.cls ∈ wsU := ut1 (List.mem_of_getElem? (i := 6) (by decide +kernel)) rfl
theorem uw217 : Cond.code yX5_riseOf cX5_riseOf 3 (some .int) ∈ wsU := ut3 (List.mem_of_getElem? (i := 81) (by decide +kernel)) rfl
theorem uw218 : Cond.fieldLink RX5 15 "LongerBack$Slopes" "isClimbed" "[Z" ∈ wsU := ut1 (List.mem_of_getElem? (i := 135) (by decide +kernel)) rfl
theorem uw219 : Cond.fieldLink RX5 19 "LongerBack$Slopes" "queue" "[I" ∈ wsU := ut1 (List.mem_of_getElem? (i := 136) (by decide +kernel)) rfl
theorem uw220 : Cond.methodLink RX5 28 yX5_climbFrom ∈ wsU := ut3 (List.mem_of_getElem? (i := 70) (by decide +kernel)) rfl
theorem uw221 : Cond.instanceMethod yX5_climbFrom ∈ wsU := ut3 (List.mem_of_getElem? (i := 72) (by decide +kernel)) rfl
theorem uw222 : Cond.selects RX5 yX5_climbFrom yX5_climbFrom ∈ wsU := us_sel (q := (yX5_climbFrom, 3)) (List.mem_of_getElem? (i := 10) (by decide +kernel)) rfl
theorem uw223 : Cond.initialized RX5 ∈ wsU := ut1 (List.mem_of_getElem? (i := 6) (by decide +kernel)) rfl
theorem uw224 : Cond.code yX5_climbFrom cX5_climbFrom 7 none ∈ wsU := ut3 (List.mem_of_getElem? (i := 73) (by decide +kernel)) rfl
theorem uw225 : Cond.fieldLink RX2 17 "LongerBack$Land" "walks" "LLongerBack$Rows;" ∈ wsU := ut1 (List.mem_of_getElem? (i := 74) (by decide +kernel)) rfl
theorem uw226 : Cond.methodLink RX2 36 yX3_stop ∈ wsU := ut3 (List.mem_of_getElem? (i := 136) (by decide +kernel)) rfl
theorem uw227 : Cond.methodLink RX2 48 yX1_wayAt ∈ wsU := ut3 (List.mem_of_getElem? (i := 145) (by decide +kernel)) rfl
theorem uw228 : Cond.methodLink RX2 51 yX2_wayOn ∈ wsU := ut3 (List.mem_of_getElem? (i := 142) (by decide +kernel)) rfl
theorem uw229 : Cond.static yX2_wayOn ∈ wsU := ut3 (List.mem_of_getElem? (i := 143) (by decide +kernel)) rfl
theorem uw230 : Cond.initialized yX2_wayOn.cls ∈ wsU := ut1 (List.mem_of_getElem? (i := 7) (by decide +kernel)) rfl
theorem uw231 : Cond.code yX2_wayOn cX2_wayOn 3 (some .int) ∈ wsU := ut3 (List.mem_of_getElem? (i := 144) (by decide +kernel)) rfl
theorem uw232 : Cond.fieldLink RX2 32 "LongerBack$Rows" "lengths" "[I" ∈ wsU := ut1 (List.mem_of_getElem? (i := 41) (by decide +kernel)) rfl
theorem uw233 : Cond.fieldLink RX2 58 "LongerBack$Land" "high" "[I" ∈ wsU := ut1 (List.mem_of_getElem? (i := 65) (by decide +kernel)) rfl
theorem uw234 : Cond.fieldLink RX2 61 "LongerBack$Land" "totals" "[I" ∈ wsU := ut1 (List.mem_of_getElem? (i := 78) (by decide +kernel)) rfl
theorem uw235 : Cond.fieldLink RX2 64 "LongerBack$Land" "slacks" "[I" ∈ wsU := ut1 (List.mem_of_getElem? (i := 81) (by decide +kernel)) rfl
theorem uw236 : Cond.methodLink RX2 67 Lib.Math.min.name ∈ wsU := ut3 (List.mem_of_getElem? (i := 146) (by decide +kernel)) rfl
theorem uw237 : Cond.fieldLink RX2 55 "LongerBack$Land" "low" "[I" ∈ wsU := ut1 (List.mem_of_getElem? (i := 63) (by decide +kernel)) rfl
theorem uw238 : Cond.methodLink RX2 72 Lib.Math.max.name ∈ wsU := ut3 (List.mem_of_getElem? (i := 147) (by decide +kernel)) rfl
theorem uw239 : Cond.static yX8_areEnds ∈ wsU := ut2 (List.mem_of_getElem? (i := 41) (by decide +kernel)) rfl
theorem uw240 : Cond.initialized yX8_areEnds.cls ∈ wsU := ut1 (List.mem_of_getElem? (i := 1) (by decide +kernel)) rfl
theorem uw241 : Cond.code yX8_areEnds cX8_areEnds 2 (some .boolean) ∈ wsU := ut2 (List.mem_of_getElem? (i := 42) (by decide +kernel)) rfl
theorem uw242 : Cond.fieldLink RX2 13 "LongerBack$Learner" "isChanged" "Z" ∈ wsU := ut1 (List.mem_of_getElem? (i := 153) (by decide +kernel)) rfl
theorem uw243 : Cond.lays RX2 "LongerBack$Learner" "liars" "I" ∈ wsU := ut1 (List.mem_of_getElem? (i := 154) (by decide +kernel)) rfl
theorem uw244 : Cond.lays RX2 "LongerBack$Learner" "isChanged" "Z" ∈ wsU := ut1 (List.mem_of_getElem? (i := 156) (by decide +kernel)) rfl
theorem uw245 : Cond.methodLink RX2 44 yX2_narrow ∈ wsU := ut3 (List.mem_of_getElem? (i := 138) (by decide +kernel)) rfl
theorem uw246 : Cond.instanceMethod yX2_narrow ∈ wsU := ut3 (List.mem_of_getElem? (i := 140) (by decide +kernel)) rfl
theorem uw247 : Cond.selects RX2 yX2_narrow yX2_narrow ∈ wsU := us_sel (q := (yX2_narrow, 2)) (List.mem_of_getElem? (i := 12) (by decide +kernel)) rfl
theorem uw248 : Cond.initialized RX2 ∈ wsU := ut1 (List.mem_of_getElem? (i := 7) (by decide +kernel)) rfl
theorem uw249 : Cond.code yX2_narrow cX2_narrow 10 (some .boolean) ∈ wsU := ut3 (List.mem_of_getElem? (i := 141) (by decide +kernel)) rfl
theorem uw250 : Cond.methodLink RX2 40 yX1_isThere ∈ wsU := ut3 (List.mem_of_getElem? (i := 137) (by decide +kernel)) rfl
theorem uw251 : Cond.instanceMethod yX1_isThere ∈ wsU := ut2 (List.mem_of_getElem? (i := 44) (by decide +kernel)) rfl
theorem uw252 : Cond.selects RX1 yX1_isThere yX1_isThere ∈ wsU := ut2 (List.mem_of_getElem? (i := 45) (by decide +kernel)) rfl
theorem uw253 : Cond.code yX1_isThere cX1_isThere 3 (some .boolean) ∈ wsU := ut2 (List.mem_of_getElem? (i := 46) (by decide +kernel)) rfl
theorem uw254 : Cond.fieldLink RX2 7 "LongerBack$Learner" "liars" "I" ∈ wsU := ut1 (List.mem_of_getElem? (i := 151) (by decide +kernel)) rfl
theorem uw255 : Cond.fieldLink RX2 23 "LongerBack$Rows" "count" "I" ∈ wsU := ut1 (List.mem_of_getElem? (i := 38) (by decide +kernel)) rfl
theorem uw256 : Cond.methodLink RX2 28 yX2_isBelieved ∈ wsU := ut3 (List.mem_of_getElem? (i := 132) (by decide +kernel)) rfl
theorem uw257 : Cond.instanceMethod yX2_isBelieved ∈ wsU := ut3 (List.mem_of_getElem? (i := 134) (by decide +kernel)) rfl
theorem uw258 : Cond.selects RX2 yX2_isBelieved yX2_isBelieved ∈ wsU := us_sel (q := (yX2_isBelieved, 2)) (List.mem_of_getElem? (i := 11) (by decide +kernel)) rfl
theorem uw259 : Cond.code yX2_isBelieved cX2_isBelieved 5 (some .boolean) ∈ wsU := ut3 (List.mem_of_getElem? (i := 135) (by decide +kernel)) rfl
theorem uw260 : Cond.fieldLink RJ0 38 "java/lang/String" "COMPACT_STRINGS" "Z" ∈ wsU := ut4 (List.mem_of_getElem? (i := 40) (by decide +kernel)) rfl
theorem uw261 : Cond.fieldLink RJ0 15 "java/lang/String" "coder" "B" ∈ wsU := ut6 (List.mem_of_getElem? (i := 232) (by decide +kernel)) rfl
theorem uw262 : Cond.fieldLink RJ0 9 "java/lang/String" "value" "[B" ∈ wsU := ut6 (List.mem_of_getElem? (i := 231) (by decide +kernel)) rfl
theorem uw263 : Cond.methodLink RJ0 335 yJ0_coder_7d493 ∈ wsU := ut4 (List.mem_of_getElem? (i := 36) (by decide +kernel)) rfl
theorem uw264 : Cond.instanceMethod yJ0_coder_7d493 ∈ wsU := ut4 (List.mem_of_getElem? (i := 37) (by decide +kernel)) rfl
theorem uw265 : Cond.selects RJ0 yJ0_coder_7d493 yJ0_coder_7d493 ∈ wsU := ut4 (List.mem_of_getElem? (i := 38) (by decide +kernel)) rfl
theorem uw266 : Cond.initialized RJ0 ∈ wsU := ut1 (List.mem_of_getElem? (i := 13) (by decide +kernel)) rfl
theorem uw267 : Cond.code yJ0_coder_7d493 cJ0_coder_7d493 1 (some .byte) ∈ wsU := ut4 (List.mem_of_getElem? (i := 39) (by decide +kernel)) rfl
theorem uw268 : Cond.fieldLink RJ0 1053 "jdk/internal/util/Preconditions" "SIOOBE_FORMATTER" "Ljava/util/function/BiFunction;" ∈ wsU := ut4 (List.mem_of_getElem? (i := 56) (by decide +kernel)) rfl
theorem uw269 : Cond.methodLink RJ0 1059 yJ3_checkIndex_8e157 ∈ wsU := ut4 (List.mem_of_getElem? (i := 58) (by decide +kernel)) rfl
theorem uw270 : Cond.static yJ3_checkIndex_8e157 ∈ wsU := ut4 (List.mem_of_getElem? (i := 59) (by decide +kernel)) rfl
theorem uw271 : Cond.initialized yJ3_checkIndex_8e157.cls ∈ wsU := ut1 (List.mem_of_getElem? (i := 15) (by decide +kernel)) rfl
theorem uw272 : Cond.code yJ3_checkIndex_8e157 cJ3_checkIndex_8e157 3 (some .int) ∈ wsU := ut4 (List.mem_of_getElem? (i := 60) (by decide +kernel)) rfl
theorem uw273 : Cond.methodLink RJ1 9 yJ0_checkIndex_df160 ∈ wsU := ut4 (List.mem_of_getElem? (i := 53) (by decide +kernel)) rfl
theorem uw274 : Cond.static yJ0_checkIndex_df160 ∈ wsU := ut4 (List.mem_of_getElem? (i := 54) (by decide +kernel)) rfl
theorem uw275 : Cond.initialized yJ0_checkIndex_df160.cls ∈ wsU := ut1 (List.mem_of_getElem? (i := 13) (by decide +kernel)) rfl
theorem uw276 : Cond.code yJ0_checkIndex_df160 cJ0_checkIndex_df160 2 none ∈ wsU := ut4 (List.mem_of_getElem? (i := 55) (by decide +kernel)) rfl
theorem uw277 : Cond.methodLink RJ0 492 yJ0_isLatin1_aae02 ∈ wsU := ut4 (List.mem_of_getElem? (i := 46) (by decide +kernel)) rfl
theorem uw278 : Cond.instanceMethod yJ0_isLatin1_aae02 ∈ wsU := ut4 (List.mem_of_getElem? (i := 47) (by decide +kernel)) rfl
theorem uw279 : Cond.selects RJ0 yJ0_isLatin1_aae02 yJ0_isLatin1_aae02 ∈ wsU := ut4 (List.mem_of_getElem? (i := 48) (by decide +kernel)) rfl
theorem uw280 : Cond.code yJ0_isLatin1_aae02 cJ0_isLatin1_aae02 1 (some .boolean) ∈ wsU := ut4 (List.mem_of_getElem? (i := 49) (by decide +kernel)) rfl
theorem uw281 : Cond.methodLink RJ0 495 yJ1_charAt_3b067 ∈ wsU := ut4 (List.mem_of_getElem? (i := 50) (by decide +kernel)) rfl
theorem uw282 : Cond.static yJ1_charAt_3b067 ∈ wsU := ut4 (List.mem_of_getElem? (i := 51) (by decide +kernel)) rfl
theorem uw283 : Cond.initialized yJ1_charAt_3b067.cls ∈ wsU := ut1 (List.mem_of_getElem? (i := 14) (by decide +kernel)) rfl
theorem uw284 : Cond.code yJ1_charAt_3b067 cJ1_charAt_3b067 2 (some .char) ∈ wsU := ut4 (List.mem_of_getElem? (i := 52) (by decide +kernel)) rfl
theorem uw285 : Cond.fieldLink RX7 9 "LongerBack$Text" "size" "I" ∈ wsU := ut1 (List.mem_of_getElem? (i := 165) (by decide +kernel)) rfl
theorem uw286 : Cond.lays RX7 "LongerBack$Text" "size" "I" ∈ wsU := ut1 (List.mem_of_getElem? (i := 173) (by decide +kernel)) rfl
theorem uw287 : Cond.laysFinal RX7 "LongerBack$Text" "bytes" "[I" ∈ wsU := ut1 (List.mem_of_getElem? (i := 175) (by decide +kernel)) rfl
theorem uw288 : Cond.lays RX7 "LongerBack$Text" "token" "I" ∈ wsU := ut1 (List.mem_of_getElem? (i := 177) (by decide +kernel)) rfl
theorem uw289 : Cond.lays RX7 "LongerBack$Text" "start" "I" ∈ wsU := ut1 (List.mem_of_getElem? (i := 179) (by decide +kernel)) rfl
theorem uw290 : Cond.lays RX7 "LongerBack$Text" "next" "I" ∈ wsU := ut1 (List.mem_of_getElem? (i := 181) (by decide +kernel)) rfl
theorem uw291 : Cond.lays RX7 "LongerBack$Text" "value" "I" ∈ wsU := ut1 (List.mem_of_getElem? (i := 183) (by decide +kernel)) rfl
theorem uw292 : Cond.lays RX7 "LongerBack$Text" "taken" "I" ∈ wsU := ut1 (List.mem_of_getElem? (i := 185) (by decide +kernel)) rfl
theorem uw293 : Cond.fieldLink RX7 15 "LongerBack$Text" "bytes" "[I" ∈ wsU := ut1 (List.mem_of_getElem? (i := 167) (by decide +kernel)) rfl
theorem uw294 : Cond.fieldLink RX7 25 "LongerBack$Text" "next" "I" ∈ wsU := ut1 (List.mem_of_getElem? (i := 170) (by decide +kernel)) rfl
theorem uw295 : Cond.fieldLink RX7 22 "LongerBack$Text" "start" "I" ∈ wsU := ut1 (List.mem_of_getElem? (i := 169) (by decide +kernel)) rfl
theorem uw296 : Cond.methodLink RX7 142 yX7_kindAt ∈ wsU := ut4 (List.mem_of_getElem? (i := 18) (by decide +kernel)) rfl
theorem uw297 : Cond.instanceMethod yX7_kindAt ∈ wsU := ut4 (List.mem_of_getElem? (i := 20) (by decide +kernel)) rfl
theorem uw298 : Cond.selects RX7 yX7_kindAt yX7_kindAt ∈ wsU := us_sel (q := (yX7_kindAt, 7)) (List.mem_of_getElem? (i := 16) (by decide +kernel)) rfl
theorem uw299 : Cond.initialized RX7 ∈ wsU := ut1 (List.mem_of_getElem? (i := 8) (by decide +kernel)) rfl
theorem uw300 : Cond.code yX7_kindAt cX7_kindAt 3 (some .int) ∈ wsU := ut4 (List.mem_of_getElem? (i := 21) (by decide +kernel)) rfl
theorem uw301 : Cond.fieldLink RX7 19 "LongerBack$Text" "token" "I" ∈ wsU := ut1 (List.mem_of_getElem? (i := 168) (by decide +kernel)) rfl
theorem uw302 : Cond.fieldLink RX7 28 "LongerBack$Text" "value" "I" ∈ wsU := ut1 (List.mem_of_getElem? (i := 171) (by decide +kernel)) rfl
theorem uw303 : Cond.methodLink RX7 145 Lib.Math.min.name ∈ wsU := ut4 (List.mem_of_getElem? (i := 22) (by decide +kernel)) rfl
theorem uw304 : Cond.methodLink RX7 132 yJ0_length_8abf5 ∈ wsU := ut4 (List.mem_of_getElem? (i := 32) (by decide +kernel)) rfl
theorem uw305 : Cond.instanceMethod yJ0_length_8abf5 ∈ wsU := ut4 (List.mem_of_getElem? (i := 33) (by decide +kernel)) rfl
theorem uw306 : Cond.selects RJ0 yJ0_length_8abf5 yJ0_length_8abf5 ∈ wsU := ut4 (List.mem_of_getElem? (i := 34) (by decide +kernel)) rfl
theorem uw307 : Cond.code yJ0_length_8abf5 cJ0_length_8abf5 1 (some .int) ∈ wsU := ut4 (List.mem_of_getElem? (i := 35) (by decide +kernel)) rfl
theorem uw308 : Cond.methodLink RX7 138 yJ0_charAt_5068e ∈ wsU := ut4 (List.mem_of_getElem? (i := 42) (by decide +kernel)) rfl
theorem uw309 : Cond.instanceMethod yJ0_charAt_5068e ∈ wsU := ut4 (List.mem_of_getElem? (i := 43) (by decide +kernel)) rfl
theorem uw310 : Cond.selects RJ0 yJ0_charAt_5068e yJ0_charAt_5068e ∈ wsU := ut4 (List.mem_of_getElem? (i := 44) (by decide +kernel)) rfl
theorem uw311 : Cond.code yJ0_charAt_5068e cJ0_charAt_5068e 2 (some .char) ∈ wsU := ut4 (List.mem_of_getElem? (i := 45) (by decide +kernel)) rfl
theorem uw312 : Cond.methodLink RX7 43 yX7_isWord ∈ wsU := ut4 (List.mem_of_getElem? (i := 28) (by decide +kernel)) rfl
theorem uw313 : Cond.instanceMethod yX7_isWord ∈ wsU := ut4 (List.mem_of_getElem? (i := 30) (by decide +kernel)) rfl
theorem uw314 : Cond.selects RX7 yX7_isWord yX7_isWord ∈ wsU := us_sel (q := (yX7_isWord, 7)) (List.mem_of_getElem? (i := 18) (by decide +kernel)) rfl
theorem uw315 : Cond.code yX7_isWord cX7_isWord 3 (some .boolean) ∈ wsU := ut4 (List.mem_of_getElem? (i := 31) (by decide +kernel)) rfl
theorem uw316 : Cond.methodLink RX7 34 yX7_step ∈ wsU := ut4 (List.mem_of_getElem? (i := 14) (by decide +kernel)) rfl
theorem uw317 : Cond.instanceMethod yX7_step ∈ wsU := ut4 (List.mem_of_getElem? (i := 16) (by decide +kernel)) rfl
theorem uw318 : Cond.selects RX7 yX7_step yX7_step ∈ wsU := us_sel (q := (yX7_step, 7)) (List.mem_of_getElem? (i := 15) (by decide +kernel)) rfl
theorem uw319 : Cond.code yX7_step cX7_step 3 none ∈ wsU := ut4 (List.mem_of_getElem? (i := 17) (by decide +kernel)) rfl
theorem uw320 : Cond.fieldLink RX7 31 "LongerBack$Text" "taken" "I" ∈ wsU := ut1 (List.mem_of_getElem? (i := 172) (by decide +kernel)) rfl
theorem uw321 : Cond.fieldLink RX7 60 "LongerBack$Land" "places" "I" ∈ wsU := ut1 (List.mem_of_getElem? (i := 58) (by decide +kernel)) rfl
theorem uw322 : Cond.methodLink RX7 67 yX7_takeWord ∈ wsU := ut4 (List.mem_of_getElem? (i := 85) (by decide +kernel)) rfl
theorem uw323 : Cond.instanceMethod yX7_takeWord ∈ wsU := ut4 (List.mem_of_getElem? (i := 87) (by decide +kernel)) rfl
theorem uw324 : Cond.selects RX7 yX7_takeWord yX7_takeWord ∈ wsU := us_sel (q := (yX7_takeWord, 7)) (List.mem_of_getElem? (i := 20) (by decide +kernel)) rfl
theorem uw325 : Cond.code yX7_takeWord cX7_takeWord 2 (some .boolean) ∈ wsU := ut4 (List.mem_of_getElem? (i := 88) (by decide +kernel)) rfl
theorem uw326 : Cond.methodLink RX7 70 yX7_takeNumber ∈ wsU := ut4 (List.mem_of_getElem? (i := 89) (by decide +kernel)) rfl
theorem uw327 : Cond.instanceMethod yX7_takeNumber ∈ wsU := ut4 (List.mem_of_getElem? (i := 91) (by decide +kernel)) rfl
theorem uw328 : Cond.selects RX7 yX7_takeNumber yX7_takeNumber ∈ wsU := us_sel (q := (yX7_takeNumber, 7)) (List.mem_of_getElem? (i := 21) (by decide +kernel)) rfl
theorem uw329 : Cond.code yX7_takeNumber cX7_takeNumber 2 (some .boolean) ∈ wsU := ut4 (List.mem_of_getElem? (i := 92) (by decide +kernel)) rfl
theorem uw330 : Cond.methodLink RX7 74 yX1_addPlace ∈ wsU := ut4 (List.mem_of_getElem? (i := 93) (by decide +kernel)) rfl
theorem uw331 : Cond.instanceMethod yX1_addPlace ∈ wsU := ut2 (List.mem_of_getElem? (i := 17) (by decide +kernel)) rfl
theorem uw332 : Cond.selects RX1 yX1_addPlace yX1_addPlace ∈ wsU := ut2 (List.mem_of_getElem? (i := 18) (by decide +kernel)) rfl
theorem uw333 : Cond.code yX1_addPlace cX1_addPlace 3 (some .int) ∈ wsU := ut2 (List.mem_of_getElem? (i := 19) (by decide +kernel)) rfl
theorem uw334 : Cond.methodLink RX7 78 yX7_takeMile ∈ wsU := ut4 (List.mem_of_getElem? (i := 99) (by decide +kernel)) rfl
theorem uw335 : Cond.instanceMethod yX7_takeMile ∈ wsU := ut4 (List.mem_of_getElem? (i := 101) (by decide +kernel)) rfl
theorem uw336 : Cond.selects RX7 yX7_takeMile yX7_takeMile ∈ wsU := us_sel (q := (yX7_takeMile, 7)) (List.mem_of_getElem? (i := 23) (by decide +kernel)) rfl
theorem uw337 : Cond.code yX7_takeMile cX7_takeMile 5 (some .boolean) ∈ wsU := ut4 (List.mem_of_getElem? (i := 102) (by decide +kernel)) rfl
theorem uw338 : Cond.methodLink RX7 84 yX1_setWay ∈ wsU := ut4 (List.mem_of_getElem? (i := 104) (by decide +kernel)) rfl
theorem uw339 : Cond.instanceMethod yX1_setWay ∈ wsU := ut2 (List.mem_of_getElem? (i := 51) (by decide +kernel)) rfl
theorem uw340 : Cond.selects RX1 yX1_setWay yX1_setWay ∈ wsU := ut2 (List.mem_of_getElem? (i := 52) (by decide +kernel)) rfl
theorem uw341 : Cond.code yX1_setWay cX1_setWay 6 none ∈ wsU := ut2 (List.mem_of_getElem? (i := 53) (by decide +kernel)) rfl
theorem uw342 : Cond.methodLink RX7 90 yX7_takeWayBack ∈ wsU := ut4 (List.mem_of_getElem? (i := 106) (by decide +kernel)) rfl
theorem uw343 : Cond.instanceMethod yX7_takeWayBack ∈ wsU := ut4 (List.mem_of_getElem? (i := 108) (by decide +kernel)) rfl
theorem uw344 : Cond.selects RX7 yX7_takeWayBack yX7_takeWayBack ∈ wsU := us_sel (q := (yX7_takeWayBack, 7)) (List.mem_of_getElem? (i := 24) (by decide +kernel)) rfl
theorem uw345 : Cond.code yX7_takeWayBack cX7_takeWayBack 4 (some .boolean) ∈ wsU := ut4 (List.mem_of_getElem? (i := 109) (by decide +kernel)) rfl
theorem uw346 : Cond.fieldLink RX7 129 "LongerBack$Land" "slacks" "[I" ∈ wsU := ut1 (List.mem_of_getElem? (i := 82) (by decide +kernel)) rfl
theorem uw347 : Cond.fieldLink RX7 94 "LongerBack$Land" "walks" "LLongerBack$Rows;" ∈ wsU := ut1 (List.mem_of_getElem? (i := 75) (by decide +kernel)) rfl
theorem uw348 : Cond.methodLink RX7 98 yX3_isFull ∈ wsU := ut4 (List.mem_of_getElem? (i := 115) (by decide +kernel)) rfl
theorem uw349 : Cond.instanceMethod yX3_isFull ∈ wsU := ut2 (List.mem_of_getElem? (i := 172) (by decide +kernel)) rfl
theorem uw350 : Cond.selects RX3 yX3_isFull yX3_isFull ∈ wsU := ut2 (List.mem_of_getElem? (i := 173) (by decide +kernel)) rfl
theorem uw351 : Cond.code yX3_isFull cX3_isFull 1 (some .boolean) ∈ wsU := ut2 (List.mem_of_getElem? (i := 174) (by decide +kernel)) rfl
theorem uw352 : Cond.methodLink RX7 104 yX1_addWalk ∈ wsU := ut4 (List.mem_of_getElem? (i := 116) (by decide +kernel)) rfl
theorem uw353 : Cond.instanceMethod yX1_addWalk ∈ wsU := ut3 (List.mem_of_getElem? (i := 116) (by decide +kernel)) rfl
theorem uw354 : Cond.selects RX1 yX1_addWalk yX1_addWalk ∈ wsU := ut3 (List.mem_of_getElem? (i := 117) (by decide +kernel)) rfl
theorem uw355 : Cond.code yX1_addWalk cX1_addWalk 5 (some .int) ∈ wsU := ut3 (List.mem_of_getElem? (i := 118) (by decide +kernel)) rfl
theorem uw356 : Cond.fieldLink RX7 115 "LongerBack$Rows" "lengths" "[I" ∈ wsU := ut1 (List.mem_of_getElem? (i := 43) (by decide +kernel)) rfl
theorem uw357 : Cond.fieldLink RX7 120 "LongerBack$Land" "totals" "[I" ∈ wsU := ut1 (List.mem_of_getElem? (i := 79) (by decide +kernel)) rfl
theorem uw358 : Cond.methodLink RX7 125 yX7_takeSlack ∈ wsU := ut4 (List.mem_of_getElem? (i := 121) (by decide +kernel)) rfl
theorem uw359 : Cond.instanceMethod yX7_takeSlack ∈ wsU := ut4 (List.mem_of_getElem? (i := 123) (by decide +kernel)) rfl
theorem uw360 : Cond.selects RX7 yX7_takeSlack yX7_takeSlack ∈ wsU := us_sel (q := (yX7_takeSlack, 7)) (List.mem_of_getElem? (i := 26) (by decide +kernel)) rfl
theorem uw361 : Cond.code yX7_takeSlack cX7_takeSlack 3 (some .boolean) ∈ wsU := ut4 (List.mem_of_getElem? (i := 124) (by decide +kernel)) rfl
theorem uw362 : Cond.methodLink RX7 108 yX3_lastStop ∈ wsU := ut4 (List.mem_of_getElem? (i := 117) (by decide +kernel)) rfl
theorem uw363 : Cond.methodLink RX7 111 yX3_append ∈ wsU := ut4 (List.mem_of_getElem? (i := 118) (by decide +kernel)) rfl
theorem uw364 : Cond.methodLink RX7 47 yX7_takePlace ∈ wsU := ut4 (List.mem_of_getElem? (i := 80) (by decide +kernel)) rfl
theorem uw365 : Cond.instanceMethod yX7_takePlace ∈ wsU := ut4 (List.mem_of_getElem? (i := 82) (by decide +kernel)) rfl
theorem uw366 : Cond.selects RX7 yX7_takePlace yX7_takePlace ∈ wsU := us_sel (q := (yX7_takePlace, 7)) (List.mem_of_getElem? (i := 19) (by decide +kernel)) rfl
theorem uw367 : Cond.code yX7_takePlace cX7_takePlace 3 (some .boolean) ∈ wsU := ut4 (List.mem_of_getElem? (i := 83) (by decide +kernel)) rfl
theorem uw368 : Cond.methodLink RX7 52 yX7_takeWay ∈ wsU := ut4 (List.mem_of_getElem? (i := 95) (by decide +kernel)) rfl
theorem uw369 : Cond.instanceMethod yX7_takeWay ∈ wsU := ut4 (List.mem_of_getElem? (i := 97) (by decide +kernel)) rfl
theorem uw370 : Cond.selects RX7 yX7_takeWay yX7_takeWay ∈ wsU := us_sel (q := (yX7_takeWay, 7)) (List.mem_of_getElem? (i := 22) (by decide +kernel)) rfl
theorem uw371 : Cond.code yX7_takeWay cX7_takeWay 6 (some .boolean) ∈ wsU := ut4 (List.mem_of_getElem? (i := 98) (by decide +kernel)) rfl
theorem uw372 : Cond.methodLink RX7 57 yX7_takeWalk ∈ wsU := ut4 (List.mem_of_getElem? (i := 111) (by decide +kernel)) rfl
theorem uw373 : Cond.instanceMethod yX7_takeWalk ∈ wsU := ut4 (List.mem_of_getElem? (i := 113) (by decide +kernel)) rfl
theorem uw374 : Cond.selects RX7 yX7_takeWalk yX7_takeWalk ∈ wsU := us_sel (q := (yX7_takeWalk, 7)) (List.mem_of_getElem? (i := 25) (by decide +kernel)) rfl
theorem uw375 : Cond.code yX7_takeWalk cX7_takeWalk 4 (some .boolean) ∈ wsU := ut4 (List.mem_of_getElem? (i := 114) (by decide +kernel)) rfl
theorem uw376 : Cond.methodLink RX7 37 yX7_takeItem ∈ wsU := ut4 (List.mem_of_getElem? (i := 23) (by decide +kernel)) rfl
theorem uw377 : Cond.instanceMethod yX7_takeItem ∈ wsU := ut4 (List.mem_of_getElem? (i := 25) (by decide +kernel)) rfl
theorem uw378 : Cond.selects RX7 yX7_takeItem yX7_takeItem ∈ wsU := us_sel (q := (yX7_takeItem, 7)) (List.mem_of_getElem? (i := 17) (by decide +kernel)) rfl
theorem uw379 : Cond.code yX7_takeItem cX7_takeItem 2 (some .boolean) ∈ wsU := ut4 (List.mem_of_getElem? (i := 26) (by decide +kernel)) rfl
theorem uw380 : Cond.methodLink RX1 47 arraycopyName ∈ wsU := ut3 (List.mem_of_getElem? (i := 157) (by decide +kernel)) rfl
theorem uw381 : Cond.methodLink RX1 53 yX3_become ∈ wsU := ut3 (List.mem_of_getElem? (i := 160) (by decide +kernel)) rfl
theorem uw382 : Cond.instanceMethod yX3_become ∈ wsU := ut3 (List.mem_of_getElem? (i := 161) (by decide +kernel)) rfl
theorem uw383 : Cond.selects RX3 yX3_become yX3_become ∈ wsU := ut3 (List.mem_of_getElem? (i := 162) (by decide +kernel)) rfl
theorem uw384 : Cond.code yX3_become cX3_become 2 none ∈ wsU := ut3 (List.mem_of_getElem? (i := 163) (by decide +kernel)) rfl
theorem uw385 : Cond.fieldLink RX4 9 "LongerBack$Sheet" "bits" "I" ∈ wsU := ut1 (List.mem_of_getElem? (i := 195) (by decide +kernel)) rfl
theorem uw386 : Cond.lays RX4 "LongerBack$Sheet" "bits" "I" ∈ wsU := ut1 (List.mem_of_getElem? (i := 201) (by decide +kernel)) rfl
theorem uw387 : Cond.lays RX4 "LongerBack$Sheet" "size" "I" ∈ wsU := ut1 (List.mem_of_getElem? (i := 203) (by decide +kernel)) rfl
theorem uw388 : Cond.laysFinal RX4 "LongerBack$Sheet" "numbers" "[J" ∈ wsU := ut1 (List.mem_of_getElem? (i := 205) (by decide +kernel)) rfl
theorem uw389 : Cond.fieldLink RX4 15 "LongerBack$Sheet" "size" "I" ∈ wsU := ut1 (List.mem_of_getElem? (i := 197) (by decide +kernel)) rfl
theorem uw390 : Cond.fieldLink RX4 18 "LongerBack$Sheet" "numbers" "[J" ∈ wsU := ut1 (List.mem_of_getElem? (i := 199) (by decide +kernel)) rfl
theorem uw391 : Cond.methodLink RX8 155 yX8_isKind ∈ wsU := ut2 (List.mem_of_getElem? (i := 168) (by decide +kernel)) rfl
theorem uw392 : Cond.static yX8_isKind ∈ wsU := ut2 (List.mem_of_getElem? (i := 169) (by decide +kernel)) rfl
theorem uw393 : Cond.initialized yX8_isKind.cls ∈ wsU := ut1 (List.mem_of_getElem? (i := 1) (by decide +kernel)) rfl
theorem uw394 : Cond.code yX8_isKind cX8_isKind 1 (some .boolean) ∈ wsU := ut2 (List.mem_of_getElem? (i := 170) (by decide +kernel)) rfl
theorem uw395 : Cond.fieldLink RX8 339 "LongerBack" "ABOVE" "[I" ∈ wsU := ut3 (List.mem_of_getElem? (i := 37) (by decide +kernel)) rfl
theorem uw396 : Cond.constant RX8 95 (-1000000001) ∈ wsU := ut2 (List.mem_of_getElem? (i := 15) (by decide +kernel)) rfl
theorem uw397 : Cond.fieldLink RX8 70 "LongerBack" "found" "[I" ∈ wsU := ut1 (List.mem_of_getElem? (i := 220) (by decide +kernel)) rfl
theorem uw398 : Cond.laysFinal RX8 "LongerBack" "here" "LLongerBack$Land;" ∈ wsU := ut1 (List.mem_of_getElem? (i := 221) (by decide +kernel)) rfl
theorem uw399 : Cond.laysFinal RX8 "LongerBack" "kept" "LLongerBack$Land;" ∈ wsU := ut1 (List.mem_of_getElem? (i := 223) (by decide +kernel)) rfl
theorem uw400 : Cond.laysFinal RX8 "LongerBack" "draft" "LLongerBack$Land;" ∈ wsU := ut1 (List.mem_of_getElem? (i := 225) (by decide +kernel)) rfl
theorem uw401 : Cond.lays RX8 "LongerBack" "isKept" "Z" ∈ wsU := ut1 (List.mem_of_getElem? (i := 227) (by decide +kernel)) rfl
theorem uw402 : Cond.laysFinal RX8 "LongerBack" "atlas" "LLongerBack$Atlas;" ∈ wsU := ut1 (List.mem_of_getElem? (i := 229) (by decide +kernel)) rfl
theorem uw403 : Cond.laysFinal RX8 "LongerBack" "mended" "LLongerBack$Atlas;" ∈ wsU := ut1 (List.mem_of_getElem? (i := 231) (by decide +kernel)) rfl
theorem uw404 : Cond.laysFinal RX8 "LongerBack" "sums" "LLongerBack$Sums;" ∈ wsU := ut1 (List.mem_of_getElem? (i := 233) (by decide +kernel)) rfl
theorem uw405 : Cond.laysFinal RX8 "LongerBack" "slopes" "LLongerBack$Slopes;" ∈ wsU := ut1 (List.mem_of_getElem? (i := 235) (by decide +kernel)) rfl
theorem uw406 : Cond.laysFinal RX8 "LongerBack" "learner" "LLongerBack$Learner;" ∈ wsU := ut1 (List.mem_of_getElem? (i := 237) (by decide +kernel)) rfl
theorem uw407 : Cond.laysFinal RX8 "LongerBack" "text" "LLongerBack$Text;" ∈ wsU := ut1 (List.mem_of_getElem? (i := 239) (by decide +kernel)) rfl
theorem uw408 : Cond.laysFinal RX8 "LongerBack" "sheets" "[LLongerBack$Sheet;" ∈ wsU := ut2 (List.mem_of_getElem? (i := 1) (by decide +kernel)) rfl
theorem uw409 : Cond.laysFinal RX8 "LongerBack" "found" "[I" ∈ wsU := ut2 (List.mem_of_getElem? (i := 3) (by decide +kernel)) rfl
theorem uw410 : Cond.constant RX8 113 (-1000000004) ∈ wsU := ut2 (List.mem_of_getElem? (i := 58) (by decide +kernel)) rfl
theorem uw411 : Cond.methodLink RX8 80 yX8_finding ∈ wsU := ut2 (List.mem_of_getElem? (i := 11) (by decide +kernel)) rfl
theorem uw412 : Cond.instanceMethod yX8_finding ∈ wsU := ut2 (List.mem_of_getElem? (i := 13) (by decide +kernel)) rfl
theorem uw413 : Cond.selects RX8 yX8_finding yX8_finding ∈ wsU := us_sel (q := (yX8_finding, 12)) (List.mem_of_getElem? (i := 0) (by decide +kernel)) rfl
theorem uw414 : Cond.initialized RX8 ∈ wsU := ut1 (List.mem_of_getElem? (i := 1) (by decide +kernel)) rfl
theorem uw415 : Cond.code yX8_finding cX8_finding 3 (some .int) ∈ wsU := ut2 (List.mem_of_getElem? (i := 14) (by decide +kernel)) rfl
theorem uw416 : Cond.fieldLink RX8 12 "LongerBack" "here" "LLongerBack$Land;" ∈ wsU := ut1 (List.mem_of_getElem? (i := 209) (by decide +kernel)) rfl
theorem uw417 : Cond.fieldLink RX8 75 "LongerBack$Land" "places" "I" ∈ wsU := ut1 (List.mem_of_getElem? (i := 56) (by decide +kernel)) rfl
theorem uw418 : Cond.methodLink RX8 84 yX1_addPlace ∈ wsU := ut2 (List.mem_of_getElem? (i := 16) (by decide +kernel)) rfl
theorem uw419 : Cond.constant RX8 79 (-1000000002) ∈ wsU := ut2 (List.mem_of_getElem? (i := 10) (by decide +kernel)) rfl
theorem uw420 : Cond.methodLink RX8 87 yX1_isPlace ∈ wsU := ut2 (List.mem_of_getElem? (i := 24) (by decide +kernel)) rfl
theorem uw421 : Cond.fieldLink RX8 96 "LongerBack$Land" "errands" "[I" ∈ wsU := ut1 (List.mem_of_getElem? (i := 60) (by decide +kernel)) rfl
theorem uw422 : Cond.methodLink RX8 99 yX1_areTwo ∈ wsU := ut2 (List.mem_of_getElem? (i := 35) (by decide +kernel)) rfl
theorem uw423 : Cond.instanceMethod yX1_areTwo ∈ wsU := ut2 (List.mem_of_getElem? (i := 36) (by decide +kernel)) rfl
theorem uw424 : Cond.selects RX1 yX1_areTwo yX1_areTwo ∈ wsU := ut2 (List.mem_of_getElem? (i := 37) (by decide +kernel)) rfl
theorem uw425 : Cond.code yX1_areTwo cX1_areTwo 3 (some .boolean) ∈ wsU := ut2 (List.mem_of_getElem? (i := 38) (by decide +kernel)) rfl
theorem uw426 : Cond.methodLink RX8 103 yX8_areEnds ∈ wsU := ut2 (List.mem_of_getElem? (i := 40) (by decide +kernel)) rfl
theorem uw427 : Cond.methodLink RX8 106 yX1_isThere ∈ wsU := ut2 (List.mem_of_getElem? (i := 43) (by decide +kernel)) rfl
theorem uw428 : Cond.methodLink RX8 109 yX1_setWay ∈ wsU := ut2 (List.mem_of_getElem? (i := 50) (by decide +kernel)) rfl
theorem uw429 : Cond.methodLink RX8 121 yX1_isOpen ∈ wsU := ut2 (List.mem_of_getElem? (i := 67) (by decide +kernel)) rfl
theorem uw430 : Cond.methodLink RX8 118 yX1_highOf ∈ wsU := ut2 (List.mem_of_getElem? (i := 63) (by decide +kernel)) rfl
theorem uw431 : Cond.instanceMethod yX1_highOf ∈ wsU := ut2 (List.mem_of_getElem? (i := 64) (by decide +kernel)) rfl
theorem uw432 : Cond.selects RX1 yX1_highOf yX1_highOf ∈ wsU := ut2 (List.mem_of_getElem? (i := 65) (by decide +kernel)) rfl
theorem uw433 : Cond.code yX1_highOf cX1_highOf 3 (some .int) ∈ wsU := ut2 (List.mem_of_getElem? (i := 66) (by decide +kernel)) rfl
theorem uw434 : Cond.methodLink RX8 114 yX1_lowOf ∈ wsU := ut2 (List.mem_of_getElem? (i := 59) (by decide +kernel)) rfl
theorem uw435 : Cond.methodLink RX8 124 yX1_setShut ∈ wsU := ut2 (List.mem_of_getElem? (i := 75) (by decide +kernel)) rfl
theorem uw436 : Cond.instanceMethod yX1_setShut ∈ wsU := ut2 (List.mem_of_getElem? (i := 76) (by decide +kernel)) rfl
theorem uw437 : Cond.selects RX1 yX1_setShut yX1_setShut ∈ wsU := ut2 (List.mem_of_getElem? (i := 77) (by decide +kernel)) rfl
theorem uw438 : Cond.code yX1_setShut cX1_setShut 4 none ∈ wsU := ut2 (List.mem_of_getElem? (i := 78) (by decide +kernel)) rfl
theorem uw439 : Cond.fieldLink RX8 29 "LongerBack" "atlas" "LLongerBack$Atlas;" ∈ wsU := ut1 (List.mem_of_getElem? (i := 213) (by decide +kernel)) rfl
theorem uw440 : Cond.methodLink RX8 146 yX0_measure ∈ wsU := ut2 (List.mem_of_getElem? (i := 87) (by decide +kernel)) rfl
theorem uw441 : Cond.instanceMethod yX0_measure ∈ wsU := ut2 (List.mem_of_getElem? (i := 88) (by decide +kernel)) rfl
theorem uw442 : Cond.selects RX0 yX0_measure yX0_measure ∈ wsU := ut2 (List.mem_of_getElem? (i := 89) (by decide +kernel)) rfl
theorem uw443 : Cond.code yX0_measure cX0_measure 4 none ∈ wsU := ut2 (List.mem_of_getElem? (i := 90) (by decide +kernel)) rfl
theorem uw444 : Cond.methodLink RX8 332 yX0_hasLoop ∈ wsU := ut2 (List.mem_of_getElem? (i := 113) (by decide +kernel)) rfl
theorem uw445 : Cond.instanceMethod yX0_hasLoop ∈ wsU := ut2 (List.mem_of_getElem? (i := 114) (by decide +kernel)) rfl
theorem uw446 : Cond.selects RX0 yX0_hasLoop yX0_hasLoop ∈ wsU := ut2 (List.mem_of_getElem? (i := 115) (by decide +kernel)) rfl
theorem uw447 : Cond.code yX0_hasLoop cX0_hasLoop 2 (some .boolean) ∈ wsU := ut2 (List.mem_of_getElem? (i := 116) (by decide +kernel)) rfl
theorem uw448 : Cond.methodLink RX8 128 yX8_isLooped ∈ wsU := ut2 (List.mem_of_getElem? (i := 83) (by decide +kernel)) rfl
theorem uw449 : Cond.instanceMethod yX8_isLooped ∈ wsU := ut2 (List.mem_of_getElem? (i := 85) (by decide +kernel)) rfl
theorem uw450 : Cond.selects RX8 yX8_isLooped yX8_isLooped ∈ wsU := us_sel (q := (yX8_isLooped, 12)) (List.mem_of_getElem? (i := 1) (by decide +kernel)) rfl
theorem uw451 : Cond.code yX8_isLooped cX8_isLooped 1 (some .boolean) ∈ wsU := ut2 (List.mem_of_getElem? (i := 86) (by decide +kernel)) rfl
theorem uw452 : Cond.constant RX8 132 (-1000000005) ∈ wsU := ut2 (List.mem_of_getElem? (i := 117) (by decide +kernel)) rfl
theorem uw453 : Cond.methodLink RX8 133 yX0_farOf ∈ wsU := ut2 (List.mem_of_getElem? (i := 118) (by decide +kernel)) rfl
theorem uw454 : Cond.methodLink RX8 136 yX8_lengthOrNone ∈ wsU := ut2 (List.mem_of_getElem? (i := 125) (by decide +kernel)) rfl
theorem uw455 : Cond.instanceMethod yX8_lengthOrNone ∈ wsU := ut2 (List.mem_of_getElem? (i := 127) (by decide +kernel)) rfl
theorem uw456 : Cond.selects RX8 yX8_lengthOrNone yX8_lengthOrNone ∈ wsU := us_sel (q := (yX8_lengthOrNone, 12)) (List.mem_of_getElem? (i := 4) (by decide +kernel)) rfl
theorem uw457 : Cond.code yX8_lengthOrNone cX8_lengthOrNone 2 (some .int) ∈ wsU := ut2 (List.mem_of_getElem? (i := 128) (by decide +kernel)) rfl
theorem uw458 : Cond.methodLink RX8 139 yX0_waysOf ∈ wsU := ut2 (List.mem_of_getElem? (i := 133) (by decide +kernel)) rfl
theorem uw459 : Cond.instanceMethod yX0_waysOf ∈ wsU := ut2 (List.mem_of_getElem? (i := 134) (by decide +kernel)) rfl
theorem uw460 : Cond.selects RX0 yX0_waysOf yX0_waysOf ∈ wsU := ut2 (List.mem_of_getElem? (i := 135) (by decide +kernel)) rfl
theorem uw461 : Cond.code yX0_waysOf cX0_waysOf 4 (some .int) ∈ wsU := ut2 (List.mem_of_getElem? (i := 136) (by decide +kernel)) rfl
theorem uw462 : Cond.methodLink RX8 142 yX0_stopOf ∈ wsU := ut2 (List.mem_of_getElem? (i := 140) (by decide +kernel)) rfl
theorem uw463 : Cond.instanceMethod yX0_stopOf ∈ wsU := ut2 (List.mem_of_getElem? (i := 141) (by decide +kernel)) rfl
theorem uw464 : Cond.selects RX0 yX0_stopOf yX0_stopOf ∈ wsU := ut2 (List.mem_of_getElem? (i := 142) (by decide +kernel)) rfl
theorem uw465 : Cond.code yX0_stopOf cX0_stopOf 7 (some .int) ∈ wsU := ut2 (List.mem_of_getElem? (i := 143) (by decide +kernel)) rfl
theorem uw466 : Cond.methodLink RX8 150 yX0_loopSet ∈ wsU := ut2 (List.mem_of_getElem? (i := 152) (by decide +kernel)) rfl
theorem uw467 : Cond.instanceMethod yX0_loopSet ∈ wsU := ut2 (List.mem_of_getElem? (i := 153) (by decide +kernel)) rfl
theorem uw468 : Cond.selects RX0 yX0_loopSet yX0_loopSet ∈ wsU := ut2 (List.mem_of_getElem? (i := 154) (by decide +kernel)) rfl
theorem uw469 : Cond.code yX0_loopSet cX0_loopSet 4 (some .int) ∈ wsU := ut2 (List.mem_of_getElem? (i := 155) (by decide +kernel)) rfl
theorem uw470 : Cond.methodLink RX8 201 yX0_tripOf ∈ wsU := ut3 (List.mem_of_getElem? (i := 56) (by decide +kernel)) rfl
theorem uw471 : Cond.methodLink RX8 197 yX0_homeOf ∈ wsU := ut3 (List.mem_of_getElem? (i := 44) (by decide +kernel)) rfl
theorem uw472 : Cond.methodLink RX8 205 yX0_meetingOf ∈ wsU := ut3 (List.mem_of_getElem? (i := 61) (by decide +kernel)) rfl
theorem uw473 : Cond.fieldLink RX8 159 "LongerBack$Land" "rounds" "LLongerBack$Rows;" ∈ wsU := ut1 (List.mem_of_getElem? (i := 69) (by decide +kernel)) rfl
theorem uw474 : Cond.methodLink RX8 163 yX3_isFull ∈ wsU := ut2 (List.mem_of_getElem? (i := 171) (by decide +kernel)) rfl
theorem uw475 : Cond.methodLink RX8 168 yX1_addRound ∈ wsU := ut2 (List.mem_of_getElem? (i := 175) (by decide +kernel)) rfl
theorem uw476 : Cond.instanceMethod yX1_addRound ∈ wsU := ut2 (List.mem_of_getElem? (i := 176) (by decide +kernel)) rfl
theorem uw477 : Cond.selects RX1 yX1_addRound yX1_addRound ∈ wsU := ut2 (List.mem_of_getElem? (i := 177) (by decide +kernel)) rfl
theorem uw478 : Cond.code yX1_addRound cX1_addRound 4 (some .int) ∈ wsU := ut2 (List.mem_of_getElem? (i := 178) (by decide +kernel)) rfl
theorem uw479 : Cond.methodLink RX8 171 yX3_has ∈ wsU := ut2 (List.mem_of_getElem? (i := 191) (by decide +kernel)) rfl
theorem uw480 : Cond.instanceMethod yX3_has ∈ wsU := ut2 (List.mem_of_getElem? (i := 192) (by decide +kernel)) rfl
theorem uw481 : Cond.selects RX3 yX3_has yX3_has ∈ wsU := ut2 (List.mem_of_getElem? (i := 193) (by decide +kernel)) rfl
theorem uw482 : Cond.code yX3_has cX3_has 2 (some .boolean) ∈ wsU := ut2 (List.mem_of_getElem? (i := 194) (by decide +kernel)) rfl
theorem uw483 : Cond.methodLink RX8 174 yX3_isFullRow ∈ wsU := ut2 (List.mem_of_getElem? (i := 195) (by decide +kernel)) rfl
theorem uw484 : Cond.instanceMethod yX3_isFullRow ∈ wsU := ut2 (List.mem_of_getElem? (i := 196) (by decide +kernel)) rfl
theorem uw485 : Cond.selects RX3 yX3_isFullRow yX3_isFullRow ∈ wsU := ut2 (List.mem_of_getElem? (i := 197) (by decide +kernel)) rfl
theorem uw486 : Cond.code yX3_isFullRow cX3_isFullRow 2 (some .boolean) ∈ wsU := ut2 (List.mem_of_getElem? (i := 198) (by decide +kernel)) rfl
theorem uw487 : Cond.methodLink RX8 177 yX3_append ∈ wsU := ut2 (List.mem_of_getElem? (i := 199) (by decide +kernel)) rfl
theorem uw488 : Cond.fieldLink RX8 39 "LongerBack" "sums" "LLongerBack$Sums;" ∈ wsU := ut1 (List.mem_of_getElem? (i := 215) (by decide +kernel)) rfl
theorem uw489 : Cond.methodLink RX8 180 yX6_sumOf ∈ wsU := ut2 (List.mem_of_getElem? (i := 204) (by decide +kernel)) rfl
theorem uw490 : Cond.instanceMethod yX6_sumOf ∈ wsU := ut2 (List.mem_of_getElem? (i := 205) (by decide +kernel)) rfl
theorem uw491 : Cond.selects RX6 yX6_sumOf yX6_sumOf ∈ wsU := ut2 (List.mem_of_getElem? (i := 206) (by decide +kernel)) rfl
theorem uw492 : Cond.code yX6_sumOf cX6_sumOf 4 (some .int) ∈ wsU := ut2 (List.mem_of_getElem? (i := 207) (by decide +kernel)) rfl
theorem uw493 : Cond.fieldLink RX8 187 "LongerBack$Rows" "lengths" "[I" ∈ wsU := ut1 (List.mem_of_getElem? (i := 44) (by decide +kernel)) rfl
theorem uw494 : Cond.methodLink RX8 190 yX3_stop ∈ wsU := ut3 (List.mem_of_getElem? (i := 29) (by decide +kernel)) rfl
theorem uw495 : Cond.fieldLink RX8 184 "LongerBack$Land" "kinds" "[I" ∈ wsU := ut1 (List.mem_of_getElem? (i := 72) (by decide +kernel)) rfl
theorem uw496 : Cond.methodLink RX8 193 yX8_isUnder ∈ wsU := ut3 (List.mem_of_getElem? (i := 34) (by decide +kernel)) rfl
theorem uw497 : Cond.static yX8_isUnder ∈ wsU := ut3 (List.mem_of_getElem? (i := 35) (by decide +kernel)) rfl
theorem uw498 : Cond.initialized yX8_isUnder.cls ∈ wsU := ut1 (List.mem_of_getElem? (i := 1) (by decide +kernel)) rfl
theorem uw499 : Cond.code yX8_isUnder cX8_isUnder 4 (some .boolean) ∈ wsU := ut3 (List.mem_of_getElem? (i := 36) (by decide +kernel)) rfl
theorem uw500 : Cond.constant RX8 196 (-1000000003) ∈ wsU := ut3 (List.mem_of_getElem? (i := 39) (by decide +kernel)) rfl
theorem uw501 : Cond.fieldLink RX8 46 "LongerBack" "slopes" "LLongerBack$Slopes;" ∈ wsU := ut1 (List.mem_of_getElem? (i := 216) (by decide +kernel)) rfl
theorem uw502 : Cond.methodLink RX8 209 yX5_climb ∈ wsU := ut3 (List.mem_of_getElem? (i := 66) (by decide +kernel)) rfl
theorem uw503 : Cond.instanceMethod yX5_climb ∈ wsU := ut3 (List.mem_of_getElem? (i := 67) (by decide +kernel)) rfl
theorem uw504 : Cond.selects RX5 yX5_climb yX5_climb ∈ wsU := ut3 (List.mem_of_getElem? (i := 68) (by decide +kernel)) rfl
theorem uw505 : Cond.code yX5_climb cX5_climb 3 none ∈ wsU := ut3 (List.mem_of_getElem? (i := 69) (by decide +kernel)) rfl
theorem uw506 : Cond.methodLink RX8 212 yX5_doFit ∈ wsU := ut3 (List.mem_of_getElem? (i := 83) (by decide +kernel)) rfl
theorem uw507 : Cond.instanceMethod yX5_doFit ∈ wsU := ut3 (List.mem_of_getElem? (i := 84) (by decide +kernel)) rfl
theorem uw508 : Cond.selects RX5 yX5_doFit yX5_doFit ∈ wsU := ut3 (List.mem_of_getElem? (i := 85) (by decide +kernel)) rfl
theorem uw509 : Cond.code yX5_doFit cX5_doFit 4 (some .boolean) ∈ wsU := ut3 (List.mem_of_getElem? (i := 86) (by decide +kernel)) rfl
theorem uw510 : Cond.fieldLink RX8 216 "LongerBack$Slopes" "heights" "[I" ∈ wsU := ut1 (List.mem_of_getElem? (i := 134) (by decide +kernel)) rfl
theorem uw511 : Cond.methodLink RX8 219 yX1_areBothWays ∈ wsU := ut3 (List.mem_of_getElem? (i := 95) (by decide +kernel)) rfl
theorem uw512 : Cond.methodLink RX8 222 yX5_paperOf ∈ wsU := ut3 (List.mem_of_getElem? (i := 96) (by decide +kernel)) rfl
theorem uw513 : Cond.methodLink RX8 226 yX5_mostOffPaper ∈ wsU := ut3 (List.mem_of_getElem? (i := 103) (by decide +kernel)) rfl
theorem uw514 : Cond.static yX5_mostOffPaper ∈ wsU := ut3 (List.mem_of_getElem? (i := 104) (by decide +kernel)) rfl
theorem uw515 : Cond.initialized yX5_mostOffPaper.cls ∈ wsU := ut1 (List.mem_of_getElem? (i := 6) (by decide +kernel)) rfl
theorem uw516 : Cond.code yX5_mostOffPaper cX5_mostOffPaper 4 (some .int) ∈ wsU := ut3 (List.mem_of_getElem? (i := 105) (by decide +kernel)) rfl
theorem uw517 : Cond.fieldLink RX8 229 "LongerBack$Land" "walks" "LLongerBack$Rows;" ∈ wsU := ut1 (List.mem_of_getElem? (i := 76) (by decide +kernel)) rfl
theorem uw518 : Cond.methodLink RX8 232 yX1_addWalk ∈ wsU := ut3 (List.mem_of_getElem? (i := 115) (by decide +kernel)) rfl
theorem uw519 : Cond.methodLink RX8 235 yX3_lastStop ∈ wsU := ut3 (List.mem_of_getElem? (i := 123) (by decide +kernel)) rfl
theorem uw520 : Cond.fieldLink RX8 53 "LongerBack" "learner" "LLongerBack$Learner;" ∈ wsU := ut1 (List.mem_of_getElem? (i := 217) (by decide +kernel)) rfl
theorem uw521 : Cond.methodLink RX8 238 yX2_learnIn ∈ wsU := ut3 (List.mem_of_getElem? (i := 128) (by decide +kernel)) rfl
theorem uw522 : Cond.instanceMethod yX2_learnIn ∈ wsU := ut3 (List.mem_of_getElem? (i := 129) (by decide +kernel)) rfl
theorem uw523 : Cond.selects RX2 yX2_learnIn yX2_learnIn ∈ wsU := ut3 (List.mem_of_getElem? (i := 130) (by decide +kernel)) rfl
theorem uw524 : Cond.code yX2_learnIn cX2_learnIn 5 (some .int) ∈ wsU := ut3 (List.mem_of_getElem? (i := 131) (by decide +kernel)) rfl
theorem uw525 : Cond.fieldLink RX8 19 "LongerBack" "draft" "LLongerBack$Land;" ∈ wsU := ut1 (List.mem_of_getElem? (i := 211) (by decide +kernel)) rfl
theorem uw526 : Cond.methodLink RX8 241 yX1_become ∈ wsU := ut3 (List.mem_of_getElem? (i := 153) (by decide +kernel)) rfl
theorem uw527 : Cond.instanceMethod yX1_become ∈ wsU := ut3 (List.mem_of_getElem? (i := 154) (by decide +kernel)) rfl
theorem uw528 : Cond.selects RX1 yX1_become yX1_become ∈ wsU := ut3 (List.mem_of_getElem? (i := 155) (by decide +kernel)) rfl
theorem uw529 : Cond.code yX1_become cX1_become 2 none ∈ wsU := ut3 (List.mem_of_getElem? (i := 156) (by decide +kernel)) rfl
theorem uw530 : Cond.fieldLink RX8 244 "LongerBack$Learner" "liars" "I" ∈ wsU := ut1 (List.mem_of_getElem? (i := 152) (by decide +kernel)) rfl
theorem uw531 : Cond.methodLink RX8 253 yX1_allBetweenEnds ∈ wsU := ut3 (List.mem_of_getElem? (i := 177) (by decide +kernel)) rfl
theorem uw532 : Cond.instanceMethod yX1_allBetweenEnds ∈ wsU := ut3 (List.mem_of_getElem? (i := 178) (by decide +kernel)) rfl
theorem uw533 : Cond.selects RX1 yX1_allBetweenEnds yX1_allBetweenEnds ∈ wsU := ut3 (List.mem_of_getElem? (i := 179) (by decide +kernel)) rfl
theorem uw534 : Cond.code yX1_allBetweenEnds cX1_allBetweenEnds 3 (some .int) ∈ wsU := ut3 (List.mem_of_getElem? (i := 180) (by decide +kernel)) rfl
theorem uw535 : Cond.methodLink RX8 250 yX1_countUnknown ∈ wsU := ut3 (List.mem_of_getElem? (i := 173) (by decide +kernel)) rfl
theorem uw536 : Cond.instanceMethod yX1_countUnknown ∈ wsU := ut3 (List.mem_of_getElem? (i := 174) (by decide +kernel)) rfl
theorem uw537 : Cond.selects RX1 yX1_countUnknown yX1_countUnknown ∈ wsU := ut3 (List.mem_of_getElem? (i := 175) (by decide +kernel)) rfl
theorem uw538 : Cond.code yX1_countUnknown cX1_countUnknown 3 (some .int) ∈ wsU := ut3 (List.mem_of_getElem? (i := 176) (by decide +kernel)) rfl
theorem uw539 : Cond.methodLink RX8 247 yX1_countWays ∈ wsU := ut3 (List.mem_of_getElem? (i := 169) (by decide +kernel)) rfl
theorem uw540 : Cond.instanceMethod yX1_countWays ∈ wsU := ut3 (List.mem_of_getElem? (i := 170) (by decide +kernel)) rfl
theorem uw541 : Cond.selects RX1 yX1_countWays yX1_countWays ∈ wsU := ut3 (List.mem_of_getElem? (i := 171) (by decide +kernel)) rfl
theorem uw542 : Cond.code yX1_countWays cX1_countWays 3 (some .int) ∈ wsU := ut3 (List.mem_of_getElem? (i := 172) (by decide +kernel)) rfl
theorem uw543 : Cond.methodLink RX8 256 yX1_widestWay ∈ wsU := ut3 (List.mem_of_getElem? (i := 185) (by decide +kernel)) rfl
theorem uw544 : Cond.instanceMethod yX1_widestWay ∈ wsU := ut3 (List.mem_of_getElem? (i := 186) (by decide +kernel)) rfl
theorem uw545 : Cond.selects RX1 yX1_widestWay yX1_widestWay ∈ wsU := ut3 (List.mem_of_getElem? (i := 187) (by decide +kernel)) rfl
theorem uw546 : Cond.code yX1_widestWay cX1_widestWay 4 (some .int) ∈ wsU := ut3 (List.mem_of_getElem? (i := 188) (by decide +kernel)) rfl
theorem uw547 : Cond.fieldLink RX8 33 "LongerBack" "mended" "LLongerBack$Atlas;" ∈ wsU := ut1 (List.mem_of_getElem? (i := 214) (by decide +kernel)) rfl
theorem uw548 : Cond.methodLink RX8 259 yX0_mendFrom ∈ wsU := ut3 (List.mem_of_getElem? (i := 193) (by decide +kernel)) rfl
theorem uw549 : Cond.instanceMethod yX0_mendFrom ∈ wsU := ut3 (List.mem_of_getElem? (i := 194) (by decide +kernel)) rfl
theorem uw550 : Cond.selects RX0 yX0_mendFrom yX0_mendFrom ∈ wsU := ut3 (List.mem_of_getElem? (i := 195) (by decide +kernel)) rfl
theorem uw551 : Cond.code yX0_mendFrom cX0_mendFrom 13 (some .boolean) ∈ wsU := ut3 (List.mem_of_getElem? (i := 196) (by decide +kernel)) rfl
theorem uw552 : Cond.methodLink RX8 263 yX0_leastTrip ∈ wsU := ut3 (List.mem_of_getElem? (i := 198) (by decide +kernel)) rfl
theorem uw553 : Cond.instanceMethod yX0_leastTrip ∈ wsU := ut3 (List.mem_of_getElem? (i := 199) (by decide +kernel)) rfl
theorem uw554 : Cond.selects RX0 yX0_leastTrip yX0_leastTrip ∈ wsU := ut3 (List.mem_of_getElem? (i := 200) (by decide +kernel)) rfl
theorem uw555 : Cond.code yX0_leastTrip cX0_leastTrip 3 (some .int) ∈ wsU := ut3 (List.mem_of_getElem? (i := 201) (by decide +kernel)) rfl
theorem uw556 : Cond.methodLink RX8 266 yX8_bestToMend ∈ wsU := ut3 (List.mem_of_getElem? (i := 207) (by decide +kernel)) rfl
theorem uw557 : Cond.instanceMethod yX8_bestToMend ∈ wsU := ut3 (List.mem_of_getElem? (i := 209) (by decide +kernel)) rfl
theorem uw558 : Cond.selects RX8 yX8_bestToMend yX8_bestToMend ∈ wsU := us_sel (q := (yX8_bestToMend, 12)) (List.mem_of_getElem? (i := 13) (by decide +kernel)) rfl
theorem uw559 : Cond.code yX8_bestToMend cX8_bestToMend 7 (some .int) ∈ wsU := ut3 (List.mem_of_getElem? (i := 210) (by decide +kernel)) rfl
theorem uw560 : Cond.methodLink RX8 269 yX1_comesTo ∈ wsU := ut3 (List.mem_of_getElem? (i := 215) (by decide +kernel)) rfl
theorem uw561 : Cond.methodLink RX8 272 yX1_hollowSet ∈ wsU := ut3 (List.mem_of_getElem? (i := 229) (by decide +kernel)) rfl
theorem uw562 : Cond.instanceMethod yX1_hollowSet ∈ wsU := ut3 (List.mem_of_getElem? (i := 230) (by decide +kernel)) rfl
theorem uw563 : Cond.selects RX1 yX1_hollowSet yX1_hollowSet ∈ wsU := ut3 (List.mem_of_getElem? (i := 231) (by decide +kernel)) rfl
theorem uw564 : Cond.code yX1_hollowSet cX1_hollowSet 5 (some .int) ∈ wsU := ut3 (List.mem_of_getElem? (i := 232) (by decide +kernel)) rfl
theorem uw565 : Cond.fieldLink RX8 60 "LongerBack" "text" "LLongerBack$Text;" ∈ wsU := ut1 (List.mem_of_getElem? (i := 218) (by decide +kernel)) rfl
theorem uw566 : Cond.fieldLink RX8 275 "LongerBack$Text" "size" "I" ∈ wsU := ut1 (List.mem_of_getElem? (i := 166) (by decide +kernel)) rfl
theorem uw567 : Cond.methodLink RX8 278 yX7_addByte ∈ wsU := ut3 (List.mem_of_getElem? (i := 238) (by decide +kernel)) rfl
theorem uw568 : Cond.instanceMethod yX7_addByte ∈ wsU := ut3 (List.mem_of_getElem? (i := 239) (by decide +kernel)) rfl
theorem uw569 : Cond.selects RX7 yX7_addByte yX7_addByte ∈ wsU := ut4 (List.mem_of_getElem? (i := 0) (by decide +kernel)) rfl
theorem uw570 : Cond.code yX7_addByte cX7_addByte 2 none ∈ wsU := ut4 (List.mem_of_getElem? (i := 1) (by decide +kernel)) rfl
theorem uw571 : Cond.methodLink RX8 282 yX7_tellTo ∈ wsU := ut4 (List.mem_of_getElem? (i := 10) (by decide +kernel)) rfl
theorem uw572 : Cond.instanceMethod yX7_tellTo ∈ wsU := ut4 (List.mem_of_getElem? (i := 11) (by decide +kernel)) rfl
theorem uw573 : Cond.selects RX7 yX7_tellTo yX7_tellTo ∈ wsU := ut4 (List.mem_of_getElem? (i := 12) (by decide +kernel)) rfl
theorem uw574 : Cond.code yX7_tellTo cX7_tellTo 3 (some .int) ∈ wsU := ut4 (List.mem_of_getElem? (i := 13) (by decide +kernel)) rfl
theorem uw575 : Cond.fieldLink RX8 16 "LongerBack" "kept" "LLongerBack$Land;" ∈ wsU := ut1 (List.mem_of_getElem? (i := 210) (by decide +kernel)) rfl
theorem uw576 : Cond.fieldLink RX8 22 "LongerBack" "isKept" "Z" ∈ wsU := ut1 (List.mem_of_getElem? (i := 212) (by decide +kernel)) rfl
theorem uw577 : Cond.fieldLink RX8 326 "LongerBack$Rows" "count" "I" ∈ wsU := ut1 (List.mem_of_getElem? (i := 39) (by decide +kernel)) rfl
theorem uw578 : Cond.methodLink RX8 329 yX1_allErrands ∈ wsU := ut4 (List.mem_of_getElem? (i := 194) (by decide +kernel)) rfl
theorem uw579 : Cond.instanceMethod yX1_allErrands ∈ wsU := ut4 (List.mem_of_getElem? (i := 195) (by decide +kernel)) rfl
theorem uw580 : Cond.selects RX1 yX1_allErrands yX1_allErrands ∈ wsU := ut4 (List.mem_of_getElem? (i := 196) (by decide +kernel)) rfl
theorem uw581 : Cond.code yX1_allErrands cX1_allErrands 3 (some .int) ∈ wsU := ut4 (List.mem_of_getElem? (i := 197) (by decide +kernel)) rfl
theorem inUX1 : ∀ w ∈ u_ws RX1 TX1 10, w ∈ wsU := List.forall_mem_cons.mpr ⟨uw6, List.forall_mem_cons.mpr ⟨uw7, List.forall_mem_cons.mpr ⟨uw8, List.forall_mem_cons.mpr ⟨uw9, List.forall_mem_cons.mpr ⟨uw10, List.forall_mem_cons.mpr ⟨uw11, List.forall_mem_cons.mpr ⟨uw12, List.forall_mem_cons.mpr ⟨uw13, List.forall_mem_cons.mpr ⟨uw14, List.forall_mem_cons.mpr ⟨uw15, fun _ h => absurd h List.not_mem_nil⟩⟩⟩⟩⟩⟩⟩⟩⟩⟩
theorem inUX3 : ∀ w ∈ u_ws RX3 TX3 3, w ∈ wsU := List.forall_mem_cons.mpr ⟨uw34, List.forall_mem_cons.mpr ⟨uw35, List.forall_mem_cons.mpr ⟨uw36, fun _ h => absurd h List.not_mem_nil⟩⟩⟩
theorem inUX0 : ∀ w ∈ u_ws RX0 TX0 2, w ∈ wsU := List.forall_mem_cons.mpr ⟨uw75, List.forall_mem_cons.mpr ⟨uw76, fun _ h => absurd h List.not_mem_nil⟩⟩
theorem inUX6 : ∀ w ∈ u_ws RX6 TX6 1, w ∈ wsU := List.forall_mem_cons.mpr ⟨uw164, fun _ h => absurd h List.not_mem_nil⟩
theorem inUX5 : ∀ w ∈ u_ws RX5 TX5 3, w ∈ wsU := List.forall_mem_cons.mpr ⟨uw211, List.forall_mem_cons.mpr ⟨uw212, List.forall_mem_cons.mpr ⟨uw213, fun _ h => absurd h List.not_mem_nil⟩⟩⟩
theorem inUX2 : ∀ w ∈ u_ws RX2 TX2 2, w ∈ wsU := List.forall_mem_cons.mpr ⟨uw243, List.forall_mem_cons.mpr ⟨uw244, fun _ h => absurd h List.not_mem_nil⟩⟩
theorem inUX7 : ∀ w ∈ u_ws RX7 TX7 7, w ∈ wsU := List.forall_mem_cons.mpr ⟨uw286, List.forall_mem_cons.mpr ⟨uw287, List.forall_mem_cons.mpr ⟨uw288, List.forall_mem_cons.mpr ⟨uw289, List.forall_mem_cons.mpr ⟨uw290, List.forall_mem_cons.mpr ⟨uw291, List.forall_mem_cons.mpr ⟨uw292, fun _ h => absurd h List.not_mem_nil⟩⟩⟩⟩⟩⟩⟩
theorem inUX4 : ∀ w ∈ u_ws RX4 TX4 3, w ∈ wsU := List.forall_mem_cons.mpr ⟨uw386, List.forall_mem_cons.mpr ⟨uw387, List.forall_mem_cons.mpr ⟨uw388, fun _ h => absurd h List.not_mem_nil⟩⟩⟩
theorem inUX8 : ∀ w ∈ u_ws RX8 TX8 12, w ∈ wsU := List.forall_mem_cons.mpr ⟨uw398, List.forall_mem_cons.mpr ⟨uw399, List.forall_mem_cons.mpr ⟨uw400, List.forall_mem_cons.mpr ⟨uw401, List.forall_mem_cons.mpr ⟨uw402, List.forall_mem_cons.mpr ⟨uw403, List.forall_mem_cons.mpr ⟨uw404, List.forall_mem_cons.mpr ⟨uw405, List.forall_mem_cons.mpr ⟨uw406, List.forall_mem_cons.mpr ⟨uw407, List.forall_mem_cons.mpr ⟨uw408, List.forall_mem_cons.mpr ⟨uw409, fun _ h => absurd h List.not_mem_nil⟩⟩⟩⟩⟩⟩⟩⟩⟩⟩⟩⟩
theorem ks_X8_91 : xWS RX8 91 yX8_isWithin cX8_isWithin 3 (some .boolean) 3 := ⟨⟨uw0, uw1, uw2, uw3⟩, by decide +kernel⟩
theorem kf_X1_9 : xWF RX1 9 1 0 RX1 TX1 10 := ⟨inUX1, rfl, by decide, uw5⟩
theorem kv_X1_57 : xWV RX1 57 RX1 yX1_isPlace cX1_isPlace 3 (some .boolean) 1 := ⟨⟨uw16, uw17, uw18, uw19, uw20⟩, by decide +kernel⟩
theorem kf_X1_25 : xWF RX1 25 1 4 RX1 TX1 10 := ⟨inUX1, rfl, by decide, uw21⟩
theorem ks_X1_61 : xWS RX1 61 yX1_wayAt cX1_wayAt 2 (some .int) 2 := ⟨⟨uw22, uw23, uw24, uw25⟩, by decide +kernel⟩
theorem kf_X1_19 : xWF RX1 19 1 2 RX1 TX1 10 := ⟨inUX1, rfl, by decide, uw26⟩
theorem kf_X1_22 : xWF RX1 22 1 3 RX1 TX1 10 := ⟨inUX1, rfl, by decide, uw27⟩
theorem kv_X1_65 : xWV RX1 65 RX1 yX1_isOpen cX1_isOpen 3 (some .boolean) 2 := ⟨⟨uw28, uw29, uw30, uw19, uw31⟩, by decide +kernel⟩
theorem kf_X1_15 : xWF RX1 15 1 1 RX1 TX1 10 := ⟨inUX1, rfl, by decide, uw32⟩
theorem kf_X3_9 : xWF RX3 9 3 0 RX3 TX3 3 := ⟨inUX3, rfl, by decide, uw33⟩
theorem kf_X3_15 : xWF RX3 15 3 1 RX3 TX3 3 := ⟨inUX3, rfl, by decide, uw37⟩
theorem kf_X3_19 : xWF RX3 19 3 2 RX3 TX3 3 := ⟨inUX3, rfl, by decide, uw38⟩
theorem kv_X3_22 : xWV RX3 22 RX3 yX3_append cX3_append 3 (some .int) 2 := ⟨⟨uw39, uw40, uw41, uw42, uw43⟩, by decide +kernel⟩
theorem kv_X3_26 : xWV RX3 26 RX3 yX3_stop cX3_stop 3 (some .int) 2 := ⟨⟨uw44, uw45, uw46, uw42, uw47⟩, by decide +kernel⟩
theorem kv_X1_74 : xWV RX1 74 RX1 yX1_lowOf cX1_lowOf 3 (some .int) 2 := ⟨⟨uw53, uw54, uw55, uw19, uw56⟩, by decide +kernel⟩
theorem kv_X1_77 : xWV RX1 77 RX1 yX1_nearestOf cX1_nearestOf 5 (some .int) 1 := ⟨⟨uw57, uw58, uw59, uw19, uw60⟩, by decide +kernel⟩
theorem kv_X1_80 : xWV RX1 80 RX1 yX1_comesTo cX1_comesTo 5 (some .int) 2 := ⟨⟨uw61, uw62, uw63, uw19, uw64⟩, by decide +kernel⟩
theorem kf_X1_31 : xWF RX1 31 1 5 RX1 TX1 10 := ⟨inUX1, rfl, by decide, uw65⟩
theorem kv_X1_69 : xWV RX1 69 RX3 yX3_begin cX3_begin 3 (some .int) 1 := ⟨⟨uw66, uw67, uw68, uw42, uw69⟩, by decide +kernel⟩
theorem kf_X1_35 : xWF RX1 35 1 6 RX1 TX1 10 := ⟨inUX1, rfl, by decide, uw70⟩
theorem kf_X1_38 : xWF RX1 38 1 7 RX1 TX1 10 := ⟨inUX1, rfl, by decide, uw71⟩
theorem kf_X1_41 : xWF RX1 41 1 8 RX1 TX1 10 := ⟨inUX1, rfl, by decide, uw72⟩
theorem kf_X1_44 : xWF RX1 44 1 9 RX1 TX1 10 := ⟨inUX1, rfl, by decide, uw73⟩
theorem kf_X0_15 : xWF RX0 15 0 1 RX0 TX0 2 := ⟨inUX0, rfl, by decide, uw74⟩
theorem kv_X0_30 : xWV RX0 30 RX1 yX1_isOpen cX1_isOpen 3 (some .boolean) 2 := ⟨⟨uw77, uw29, uw30, uw19, uw31⟩, by decide +kernel⟩
theorem kv_X0_34 : xWV RX0 34 RX1 yX1_lowOf cX1_lowOf 3 (some .int) 2 := ⟨⟨uw78, uw54, uw55, uw19, uw56⟩, by decide +kernel⟩
theorem kf_X0_9 : xWF RX0 9 0 0 RX0 TX0 2 := ⟨inUX0, rfl, by decide, uw80⟩
theorem kv_X0_39 : xWV RX0 39 RX0 yX0_lengthOf cX0_lengthOf 3 (some .int) 2 := ⟨⟨uw81, uw82, uw83, uw84, uw85⟩, by decide +kernel⟩
theorem kn_X0_42 : (Cond.code yX8_together cX8_together 2 (some .int) ∈ wsU ∧ Cond.static yX8_together ∈ wsU ∧ Cond.initialized yX8_together.cls ∈ wsU) ∧ (yX8_together.cls ≠ "java/lang/invoke/MethodHandle" ∧ yX8_together.cls ≠ "java/lang/invoke/VarHandle" ∧ (parseMethodDescriptor yX8_together.desc).map (fun d => d.parameters.length) = some 2) ∧ Cond.methodLinkNest RX0 42 yX8_together RX8 ∈ xNest := ⟨⟨uw88, uw86, uw87⟩, by decide +kernel, by decide +kernel⟩
theorem kf_X0_19 : xWF RX0 19 1 0 RX1 TX1 10 := ⟨inUX1, rfl, by decide, uw94⟩
theorem kv_X0_26 : xWV RX0 26 RX0 yX0_shortenOver cX0_shortenOver 6 none 1 := ⟨⟨uw95, uw96, uw97, uw84, uw98⟩, by decide +kernel⟩
theorem ks_X0_22 : xWS RX0 22 yX0_oneWay cX0_oneWay 3 (some .int) 3 := ⟨⟨uw99, uw100, uw101, uw102⟩, by decide +kernel⟩
theorem kv_X0_51 : xWV RX0 51 RX0 yX0_isBackAndForth cX0_isBackAndForth 3 (some .boolean) 2 := ⟨⟨uw103, uw104, uw105, uw84, uw106⟩, by decide +kernel⟩
theorem ks_X0_54 : xWS RX0 54 yJ9_floorDiv_7cf53 cJ9_floorDiv_7cf53 3 (some .int) 2 := ⟨⟨uw107, uw108, uw109, uw110⟩, by decide +kernel⟩
theorem ks_X0_57 : xWS RX0 57 yJ9_floorMod_7cf53 cJ9_floorMod_7cf53 3 (some .int) 2 := ⟨⟨uw111, uw112, uw113, uw114⟩, by decide +kernel⟩
theorem kv_X0_60 : xWV RX0 60 RX0 yX0_nextStop cX0_nextStop 5 (some .int) 3 := ⟨⟨uw115, uw116, uw117, uw84, uw118⟩, by decide +kernel⟩
theorem kf_X0_63 : xWF RX0 63 1 1 RX1 TX1 10 := ⟨inUX1, rfl, by decide, uw119⟩
theorem kv_X0_66 : xWV RX0 66 RX0 yX0_farOf cX0_farOf 4 (some .int) 2 := ⟨⟨uw120, uw121, uw122, uw84, uw123⟩, by decide +kernel⟩
theorem kv_X0_69 : xWV RX0 69 RX0 yX0_tripOf cX0_tripOf 6 (some .int) 2 := ⟨⟨uw124, uw125, uw126, uw84, uw127⟩, by decide +kernel⟩
theorem kv_X0_73 : xWV RX0 73 RX0 yX0_homeOf cX0_homeOf 6 (some .int) 1 := ⟨⟨uw128, uw129, uw130, uw84, uw131⟩, by decide +kernel⟩
theorem kv_X0_77 : xWV RX0 77 RX0 yX0_priceOf cX0_priceOf 8 (some .int) 4 := ⟨⟨uw132, uw133, uw134, uw84, uw135⟩, by decide +kernel⟩
theorem kf_X6_44 : xWF RX6 44 3 1 RX3 TX3 3 := ⟨inUX3, rfl, by decide, uw139⟩
theorem kv_X6_49 : xWV RX6 49 RX3 yX3_stop cX3_stop 3 (some .int) 2 := ⟨⟨uw140, uw45, uw46, uw42, uw47⟩, by decide +kernel⟩
theorem ks_X6_53 : xWS RX6 53 yX6_stopBehind cX6_stopBehind 3 (some .int) 3 := ⟨⟨uw141, uw142, uw143, uw144⟩, by decide +kernel⟩
theorem kv_X6_57 : xWV RX6 57 RX0 yX0_farOf cX0_farOf 4 (some .int) 2 := ⟨⟨uw145, uw121, uw122, uw84, uw123⟩, by decide +kernel⟩
theorem kn_X6_62 : (Cond.code yX8_together cX8_together 2 (some .int) ∈ wsU ∧ Cond.static yX8_together ∈ wsU ∧ Cond.initialized yX8_together.cls ∈ wsU) ∧ (yX8_together.cls ≠ "java/lang/invoke/MethodHandle" ∧ yX8_together.cls ≠ "java/lang/invoke/VarHandle" ∧ (parseMethodDescriptor yX8_together.desc).map (fun d => d.parameters.length) = some 2) ∧ Cond.methodLinkNest RX6 62 yX8_together RX8 ∈ xNest := ⟨⟨uw88, uw86, uw87⟩, by decide +kernel, by decide +kernel⟩
theorem kv_X6_69 : xWV RX6 69 RX1 yX1_isOpen cX1_isOpen 3 (some .boolean) 2 := ⟨⟨uw146, uw29, uw30, uw19, uw31⟩, by decide +kernel⟩
theorem kv_X6_73 : xWV RX6 73 RX1 yX1_lowOf cX1_lowOf 3 (some .int) 2 := ⟨⟨uw147, uw54, uw55, uw19, uw56⟩, by decide +kernel⟩
theorem kf_X6_20 : xWF RX6 20 1 5 RX1 TX1 10 := ⟨inUX1, rfl, by decide, uw149⟩
theorem ks_X6_65 : xWS RX6 65 yX6_toldWay cX6_toldWay 3 (some .int) 3 := ⟨⟨uw150, uw151, uw152, uw153⟩, by decide +kernel⟩
theorem kv_X6_76 : xWV RX6 76 RX3 yX3_lastStop cX3_lastStop 2 (some .int) 1 := ⟨⟨uw154, uw155, uw156, uw42, uw157⟩, by decide +kernel⟩
theorem kv_X6_80 : xWV RX6 80 RX0 yX0_meetingOf cX0_meetingOf 8 (some .int) 3 := ⟨⟨uw158, uw159, uw160, uw84, uw161⟩, by decide +kernel⟩
theorem kv_X6_84 : xWV RX6 84 RX0 yX0_priceOf cX0_priceOf 8 (some .int) 4 := ⟨⟨uw162, uw133, uw134, uw84, uw135⟩, by decide +kernel⟩
theorem kf_X6_9 : xWF RX6 9 6 0 RX6 TX6 1 := ⟨inUX6, rfl, by decide, uw163⟩
theorem kv_X6_97 : xWV RX6 97 RX6 yX6_goOnFrom cX6_goOnFrom 10 none 5 := ⟨⟨uw166, uw167, uw168, uw169, uw170⟩, by decide +kernel⟩
theorem kv_X6_88 : xWV RX6 88 RX6 yX6_orderStops cX6_orderStops 7 none 3 := ⟨⟨uw171, uw172, uw173, uw169, uw174⟩, by decide +kernel⟩
theorem kf_X6_15 : xWF RX6 15 1 6 RX1 TX1 10 := ⟨inUX1, rfl, by decide, uw175⟩
theorem ks_X6_24 : xWS RX6 24 yX6_roundSum cX6_roundSum 5 (some .int) 3 := ⟨⟨uw176, uw177, uw178, uw179⟩, by decide +kernel⟩
theorem ks_X6_28 : xWS RX6 28 yX6_toldSum cX6_toldSum 7 (some .int) 3 := ⟨⟨uw180, uw181, uw182, uw183⟩, by decide +kernel⟩
theorem kv_X6_32 : xWV RX6 32 RX6 yX6_bestSum cX6_bestSum 9 (some .int) 4 := ⟨⟨uw184, uw185, uw186, uw169, uw187⟩, by decide +kernel⟩
theorem ks_X6_36 : xWS RX6 36 yX6_meetSum cX6_meetSum 6 (some .int) 3 := ⟨⟨uw188, uw189, uw190, uw191⟩, by decide +kernel⟩
theorem ks_X6_40 : xWS RX6 40 yX6_pairsSum cX6_pairsSum 7 (some .int) 3 := ⟨⟨uw192, uw193, uw194, uw195⟩, by decide +kernel⟩
theorem kv_X5_40 : xWV RX5 40 RX1 yX1_lowOf cX1_lowOf 3 (some .int) 2 := ⟨⟨uw196, uw54, uw55, uw19, uw56⟩, by decide +kernel⟩
theorem kf_X5_22 : xWF RX5 22 1 0 RX1 TX1 10 := ⟨inUX1, rfl, by decide, uw197⟩
theorem kv_X5_32 : xWV RX5 32 RX1 yX1_areBothWays cX1_areBothWays 3 (some .boolean) 2 := ⟨⟨uw198, uw199, uw200, uw19, uw201⟩, by decide +kernel⟩
theorem ks_X5_44 : xWS RX5 44 yX5_paperOf cX5_paperOf 3 (some .int) 3 := ⟨⟨uw202, uw203, uw204, uw205⟩, by decide +kernel⟩
theorem kf_X5_9 : xWF RX5 9 5 0 RX5 TX5 3 := ⟨inUX5, rfl, by decide, uw210⟩
theorem ks_X5_36 : xWS RX5 36 yX5_riseOf cX5_riseOf 3 (some .int) 3 := ⟨⟨uw214, uw215, uw216, uw217⟩, by decide +kernel⟩
theorem kf_X5_15 : xWF RX5 15 5 1 RX5 TX5 3 := ⟨inUX5, rfl, by decide, uw218⟩
theorem kf_X5_19 : xWF RX5 19 5 2 RX5 TX5 3 := ⟨inUX5, rfl, by decide, uw219⟩
theorem kv_X5_28 : xWV RX5 28 RX5 yX5_climbFrom cX5_climbFrom 7 none 2 := ⟨⟨uw220, uw221, uw222, uw223, uw224⟩, by decide +kernel⟩
theorem kf_X2_17 : xWF RX2 17 1 7 RX1 TX1 10 := ⟨inUX1, rfl, by decide, uw225⟩
theorem kv_X2_36 : xWV RX2 36 RX3 yX3_stop cX3_stop 3 (some .int) 2 := ⟨⟨uw226, uw45, uw46, uw42, uw47⟩, by decide +kernel⟩
theorem ks_X2_48 : xWS RX2 48 yX1_wayAt cX1_wayAt 2 (some .int) 2 := ⟨⟨uw227, uw23, uw24, uw25⟩, by decide +kernel⟩
theorem ks_X2_51 : xWS RX2 51 yX2_wayOn cX2_wayOn 3 (some .int) 3 := ⟨⟨uw228, uw229, uw230, uw231⟩, by decide +kernel⟩
theorem kf_X2_32 : xWF RX2 32 3 1 RX3 TX3 3 := ⟨inUX3, rfl, by decide, uw232⟩
theorem kf_X2_58 : xWF RX2 58 1 3 RX1 TX1 10 := ⟨inUX1, rfl, by decide, uw233⟩
theorem kf_X2_61 : xWF RX2 61 1 8 RX1 TX1 10 := ⟨inUX1, rfl, by decide, uw234⟩
theorem kf_X2_64 : xWF RX2 64 1 9 RX1 TX1 10 := ⟨inUX1, rfl, by decide, uw235⟩
theorem kf_X2_55 : xWF RX2 55 1 2 RX1 TX1 10 := ⟨inUX1, rfl, by decide, uw237⟩
theorem kn_X2_75 : (Cond.code yX8_areEnds cX8_areEnds 2 (some .boolean) ∈ wsU ∧ Cond.static yX8_areEnds ∈ wsU ∧ Cond.initialized yX8_areEnds.cls ∈ wsU) ∧ (yX8_areEnds.cls ≠ "java/lang/invoke/MethodHandle" ∧ yX8_areEnds.cls ≠ "java/lang/invoke/VarHandle" ∧ (parseMethodDescriptor yX8_areEnds.desc).map (fun d => d.parameters.length) = some 2) ∧ Cond.methodLinkNest RX2 75 yX8_areEnds RX8 ∈ xNest := ⟨⟨uw241, uw239, uw240⟩, by decide +kernel, by decide +kernel⟩
theorem kf_X2_13 : xWF RX2 13 2 1 RX2 TX2 2 := ⟨inUX2, rfl, by decide, uw242⟩
theorem kv_X2_44 : xWV RX2 44 RX2 yX2_narrow cX2_narrow 10 (some .boolean) 3 := ⟨⟨uw245, uw246, uw247, uw248, uw249⟩, by decide +kernel⟩
theorem kv_X2_40 : xWV RX2 40 RX1 yX1_isThere cX1_isThere 3 (some .boolean) 2 := ⟨⟨uw250, uw251, uw252, uw19, uw253⟩, by decide +kernel⟩
theorem kf_X2_7 : xWF RX2 7 2 0 RX2 TX2 2 := ⟨inUX2, rfl, by decide, uw254⟩
theorem kf_X2_23 : xWF RX2 23 3 0 RX3 TX3 3 := ⟨inUX3, rfl, by decide, uw255⟩
theorem kv_X2_28 : xWV RX2 28 RX2 yX2_isBelieved cX2_isBelieved 5 (some .boolean) 2 := ⟨⟨uw256, uw257, uw258, uw248, uw259⟩, by decide +kernel⟩
theorem kv_J0_335 : xWV RJ0 335 RJ0 yJ0_coder_7d493 cJ0_coder_7d493 1 (some .byte) 0 := ⟨⟨uw263, uw264, uw265, uw266, uw267⟩, by decide +kernel⟩
theorem ks_J0_1059 : xWS RJ0 1059 yJ3_checkIndex_8e157 cJ3_checkIndex_8e157 3 (some .int) 3 := ⟨⟨uw269, uw270, uw271, uw272⟩, by decide +kernel⟩
theorem ks_J1_9 : xWS RJ1 9 yJ0_checkIndex_df160 cJ0_checkIndex_df160 2 none 2 := ⟨⟨uw273, uw274, uw275, uw276⟩, by decide +kernel⟩
theorem kv_J0_492 : xWV RJ0 492 RJ0 yJ0_isLatin1_aae02 cJ0_isLatin1_aae02 1 (some .boolean) 0 := ⟨⟨uw277, uw278, uw279, uw266, uw280⟩, by decide +kernel⟩
theorem ks_J0_495 : xWS RJ0 495 yJ1_charAt_3b067 cJ1_charAt_3b067 2 (some .char) 2 := ⟨⟨uw281, uw282, uw283, uw284⟩, by decide +kernel⟩
theorem kf_X7_9 : xWF RX7 9 7 0 RX7 TX7 7 := ⟨inUX7, rfl, by decide, uw285⟩
theorem kf_X7_15 : xWF RX7 15 7 1 RX7 TX7 7 := ⟨inUX7, rfl, by decide, uw293⟩
theorem kf_X7_25 : xWF RX7 25 7 4 RX7 TX7 7 := ⟨inUX7, rfl, by decide, uw294⟩
theorem kf_X7_22 : xWF RX7 22 7 3 RX7 TX7 7 := ⟨inUX7, rfl, by decide, uw295⟩
theorem kv_X7_142 : xWV RX7 142 RX7 yX7_kindAt cX7_kindAt 3 (some .int) 1 := ⟨⟨uw296, uw297, uw298, uw299, uw300⟩, by decide +kernel⟩
theorem kf_X7_19 : xWF RX7 19 7 2 RX7 TX7 7 := ⟨inUX7, rfl, by decide, uw301⟩
theorem kf_X7_28 : xWF RX7 28 7 5 RX7 TX7 7 := ⟨inUX7, rfl, by decide, uw302⟩
theorem kv_X7_132 : xWV RX7 132 RJ0 yJ0_length_8abf5 cJ0_length_8abf5 1 (some .int) 0 := ⟨⟨uw304, uw305, uw306, uw266, uw307⟩, by decide +kernel⟩
theorem kv_X7_138 : xWV RX7 138 RJ0 yJ0_charAt_5068e cJ0_charAt_5068e 2 (some .char) 1 := ⟨⟨uw308, uw309, uw310, uw266, uw311⟩, by decide +kernel⟩
theorem kv_X7_43 : xWV RX7 43 RX7 yX7_isWord cX7_isWord 3 (some .boolean) 1 := ⟨⟨uw312, uw313, uw314, uw299, uw315⟩, by decide +kernel⟩
theorem kv_X7_34 : xWV RX7 34 RX7 yX7_step cX7_step 3 none 0 := ⟨⟨uw316, uw317, uw318, uw299, uw319⟩, by decide +kernel⟩
theorem kf_X7_31 : xWF RX7 31 7 6 RX7 TX7 7 := ⟨inUX7, rfl, by decide, uw320⟩
theorem kf_X7_60 : xWF RX7 60 1 0 RX1 TX1 10 := ⟨inUX1, rfl, by decide, uw321⟩
theorem kv_X7_67 : xWV RX7 67 RX7 yX7_takeWord cX7_takeWord 2 (some .boolean) 1 := ⟨⟨uw322, uw323, uw324, uw299, uw325⟩, by decide +kernel⟩
theorem kv_X7_70 : xWV RX7 70 RX7 yX7_takeNumber cX7_takeNumber 2 (some .boolean) 1 := ⟨⟨uw326, uw327, uw328, uw299, uw329⟩, by decide +kernel⟩
theorem kv_X7_74 : xWV RX7 74 RX1 yX1_addPlace cX1_addPlace 3 (some .int) 1 := ⟨⟨uw330, uw331, uw332, uw19, uw333⟩, by decide +kernel⟩
theorem kv_X7_78 : xWV RX7 78 RX7 yX7_takeMile cX7_takeMile 5 (some .boolean) 2 := ⟨⟨uw334, uw335, uw336, uw299, uw337⟩, by decide +kernel⟩
theorem kv_X7_84 : xWV RX7 84 RX1 yX1_setWay cX1_setWay 6 none 4 := ⟨⟨uw338, uw339, uw340, uw19, uw341⟩, by decide +kernel⟩
theorem kv_X7_90 : xWV RX7 90 RX7 yX7_takeWayBack cX7_takeWayBack 4 (some .boolean) 3 := ⟨⟨uw342, uw343, uw344, uw299, uw345⟩, by decide +kernel⟩
theorem kf_X7_129 : xWF RX7 129 1 9 RX1 TX1 10 := ⟨inUX1, rfl, by decide, uw346⟩
theorem kf_X7_94 : xWF RX7 94 1 7 RX1 TX1 10 := ⟨inUX1, rfl, by decide, uw347⟩
theorem kv_X7_98 : xWV RX7 98 RX3 yX3_isFull cX3_isFull 1 (some .boolean) 0 := ⟨⟨uw348, uw349, uw350, uw42, uw351⟩, by decide +kernel⟩
theorem kv_X7_104 : xWV RX7 104 RX1 yX1_addWalk cX1_addWalk 5 (some .int) 3 := ⟨⟨uw352, uw353, uw354, uw19, uw355⟩, by decide +kernel⟩
theorem kf_X7_115 : xWF RX7 115 3 1 RX3 TX3 3 := ⟨inUX3, rfl, by decide, uw356⟩
theorem kf_X7_120 : xWF RX7 120 1 8 RX1 TX1 10 := ⟨inUX1, rfl, by decide, uw357⟩
theorem kv_X7_125 : xWV RX7 125 RX7 yX7_takeSlack cX7_takeSlack 3 (some .boolean) 2 := ⟨⟨uw358, uw359, uw360, uw299, uw361⟩, by decide +kernel⟩
theorem kv_X7_108 : xWV RX7 108 RX3 yX3_lastStop cX3_lastStop 2 (some .int) 1 := ⟨⟨uw362, uw155, uw156, uw42, uw157⟩, by decide +kernel⟩
theorem kv_X7_111 : xWV RX7 111 RX3 yX3_append cX3_append 3 (some .int) 2 := ⟨⟨uw363, uw40, uw41, uw42, uw43⟩, by decide +kernel⟩
theorem kv_X7_47 : xWV RX7 47 RX7 yX7_takePlace cX7_takePlace 3 (some .boolean) 1 := ⟨⟨uw364, uw365, uw366, uw299, uw367⟩, by decide +kernel⟩
theorem kv_X7_52 : xWV RX7 52 RX7 yX7_takeWay cX7_takeWay 6 (some .boolean) 1 := ⟨⟨uw368, uw369, uw370, uw299, uw371⟩, by decide +kernel⟩
theorem kv_X7_57 : xWV RX7 57 RX7 yX7_takeWalk cX7_takeWalk 4 (some .boolean) 1 := ⟨⟨uw372, uw373, uw374, uw299, uw375⟩, by decide +kernel⟩
theorem kv_X7_37 : xWV RX7 37 RX7 yX7_takeItem cX7_takeItem 2 (some .boolean) 1 := ⟨⟨uw376, uw377, uw378, uw299, uw379⟩, by decide +kernel⟩
theorem kv_X1_53 : xWV RX1 53 RX3 yX3_become cX3_become 2 none 1 := ⟨⟨uw381, uw382, uw383, uw42, uw384⟩, by decide +kernel⟩
theorem kf_X4_9 : xWF RX4 9 4 0 RX4 TX4 3 := ⟨inUX4, rfl, by decide, uw385⟩
theorem kf_X4_15 : xWF RX4 15 4 1 RX4 TX4 3 := ⟨inUX4, rfl, by decide, uw389⟩
theorem kf_X4_18 : xWF RX4 18 4 2 RX4 TX4 3 := ⟨inUX4, rfl, by decide, uw390⟩
theorem ks_X8_155 : xWS RX8 155 yX8_isKind cX8_isKind 1 (some .boolean) 1 := ⟨⟨uw391, uw392, uw393, uw394⟩, by decide +kernel⟩
theorem kf_X8_70 : xWF RX8 70 8 11 RX8 TX8 12 := ⟨inUX8, rfl, by decide, uw397⟩
theorem kv_X8_80 : xWV RX8 80 RX8 yX8_finding cX8_finding 3 (some .int) 1 := ⟨⟨uw411, uw412, uw413, uw414, uw415⟩, by decide +kernel⟩
theorem kf_X8_12 : xWF RX8 12 8 0 RX8 TX8 12 := ⟨inUX8, rfl, by decide, uw416⟩
theorem kf_X8_75 : xWF RX8 75 1 0 RX1 TX1 10 := ⟨inUX1, rfl, by decide, uw417⟩
theorem kv_X8_84 : xWV RX8 84 RX1 yX1_addPlace cX1_addPlace 3 (some .int) 1 := ⟨⟨uw418, uw331, uw332, uw19, uw333⟩, by decide +kernel⟩
theorem kv_X8_87 : xWV RX8 87 RX1 yX1_isPlace cX1_isPlace 3 (some .boolean) 1 := ⟨⟨uw420, uw17, uw18, uw19, uw20⟩, by decide +kernel⟩
theorem kf_X8_96 : xWF RX8 96 1 1 RX1 TX1 10 := ⟨inUX1, rfl, by decide, uw421⟩
theorem kv_X8_99 : xWV RX8 99 RX1 yX1_areTwo cX1_areTwo 3 (some .boolean) 2 := ⟨⟨uw422, uw423, uw424, uw19, uw425⟩, by decide +kernel⟩
theorem ks_X8_103 : xWS RX8 103 yX8_areEnds cX8_areEnds 2 (some .boolean) 2 := ⟨⟨uw426, uw239, uw240, uw241⟩, by decide +kernel⟩
theorem kv_X8_106 : xWV RX8 106 RX1 yX1_isThere cX1_isThere 3 (some .boolean) 2 := ⟨⟨uw427, uw251, uw252, uw19, uw253⟩, by decide +kernel⟩
theorem kv_X8_109 : xWV RX8 109 RX1 yX1_setWay cX1_setWay 6 none 4 := ⟨⟨uw428, uw339, uw340, uw19, uw341⟩, by decide +kernel⟩
theorem kv_X8_121 : xWV RX8 121 RX1 yX1_isOpen cX1_isOpen 3 (some .boolean) 2 := ⟨⟨uw429, uw29, uw30, uw19, uw31⟩, by decide +kernel⟩
theorem kv_X8_118 : xWV RX8 118 RX1 yX1_highOf cX1_highOf 3 (some .int) 2 := ⟨⟨uw430, uw431, uw432, uw19, uw433⟩, by decide +kernel⟩
theorem kv_X8_114 : xWV RX8 114 RX1 yX1_lowOf cX1_lowOf 3 (some .int) 2 := ⟨⟨uw434, uw54, uw55, uw19, uw56⟩, by decide +kernel⟩
theorem kv_X8_124 : xWV RX8 124 RX1 yX1_setShut cX1_setShut 4 none 3 := ⟨⟨uw435, uw436, uw437, uw19, uw438⟩, by decide +kernel⟩
theorem kf_X8_29 : xWF RX8 29 8 4 RX8 TX8 12 := ⟨inUX8, rfl, by decide, uw439⟩
theorem kv_X8_146 : xWV RX8 146 RX0 yX0_measure cX0_measure 4 none 1 := ⟨⟨uw440, uw441, uw442, uw84, uw443⟩, by decide +kernel⟩
theorem kv_X8_332 : xWV RX8 332 RX0 yX0_hasLoop cX0_hasLoop 2 (some .boolean) 0 := ⟨⟨uw444, uw445, uw446, uw84, uw447⟩, by decide +kernel⟩
theorem kv_X8_128 : xWV RX8 128 RX8 yX8_isLooped cX8_isLooped 1 (some .boolean) 0 := ⟨⟨uw448, uw449, uw450, uw414, uw451⟩, by decide +kernel⟩
theorem kv_X8_133 : xWV RX8 133 RX0 yX0_farOf cX0_farOf 4 (some .int) 2 := ⟨⟨uw453, uw121, uw122, uw84, uw123⟩, by decide +kernel⟩
theorem kv_X8_136 : xWV RX8 136 RX8 yX8_lengthOrNone cX8_lengthOrNone 2 (some .int) 1 := ⟨⟨uw454, uw455, uw456, uw414, uw457⟩, by decide +kernel⟩
theorem kv_X8_139 : xWV RX8 139 RX0 yX0_waysOf cX0_waysOf 4 (some .int) 2 := ⟨⟨uw458, uw459, uw460, uw84, uw461⟩, by decide +kernel⟩
theorem kv_X8_142 : xWV RX8 142 RX0 yX0_stopOf cX0_stopOf 7 (some .int) 4 := ⟨⟨uw462, uw463, uw464, uw84, uw465⟩, by decide +kernel⟩
theorem kv_X8_150 : xWV RX8 150 RX0 yX0_loopSet cX0_loopSet 4 (some .int) 0 := ⟨⟨uw466, uw467, uw468, uw84, uw469⟩, by decide +kernel⟩
theorem kv_X8_201 : xWV RX8 201 RX0 yX0_tripOf cX0_tripOf 6 (some .int) 2 := ⟨⟨uw470, uw125, uw126, uw84, uw127⟩, by decide +kernel⟩
theorem kv_X8_197 : xWV RX8 197 RX0 yX0_homeOf cX0_homeOf 6 (some .int) 1 := ⟨⟨uw471, uw129, uw130, uw84, uw131⟩, by decide +kernel⟩
theorem kv_X8_205 : xWV RX8 205 RX0 yX0_meetingOf cX0_meetingOf 8 (some .int) 3 := ⟨⟨uw472, uw159, uw160, uw84, uw161⟩, by decide +kernel⟩
theorem kf_X8_159 : xWF RX8 159 1 5 RX1 TX1 10 := ⟨inUX1, rfl, by decide, uw473⟩
theorem kv_X8_163 : xWV RX8 163 RX3 yX3_isFull cX3_isFull 1 (some .boolean) 0 := ⟨⟨uw474, uw349, uw350, uw42, uw351⟩, by decide +kernel⟩
theorem kv_X8_168 : xWV RX8 168 RX1 yX1_addRound cX1_addRound 4 (some .int) 2 := ⟨⟨uw475, uw476, uw477, uw19, uw478⟩, by decide +kernel⟩
theorem kv_X8_171 : xWV RX8 171 RX3 yX3_has cX3_has 2 (some .boolean) 1 := ⟨⟨uw479, uw480, uw481, uw42, uw482⟩, by decide +kernel⟩
theorem kv_X8_174 : xWV RX8 174 RX3 yX3_isFullRow cX3_isFullRow 2 (some .boolean) 1 := ⟨⟨uw483, uw484, uw485, uw42, uw486⟩, by decide +kernel⟩
theorem kv_X8_177 : xWV RX8 177 RX3 yX3_append cX3_append 3 (some .int) 2 := ⟨⟨uw487, uw40, uw41, uw42, uw43⟩, by decide +kernel⟩
theorem kf_X8_39 : xWF RX8 39 8 6 RX8 TX8 12 := ⟨inUX8, rfl, by decide, uw488⟩
theorem kv_X8_180 : xWV RX8 180 RX6 yX6_sumOf cX6_sumOf 4 (some .int) 3 := ⟨⟨uw489, uw490, uw491, uw169, uw492⟩, by decide +kernel⟩
theorem kf_X8_187 : xWF RX8 187 3 1 RX3 TX3 3 := ⟨inUX3, rfl, by decide, uw493⟩
theorem kv_X8_190 : xWV RX8 190 RX3 yX3_stop cX3_stop 3 (some .int) 2 := ⟨⟨uw494, uw45, uw46, uw42, uw47⟩, by decide +kernel⟩
theorem kf_X8_184 : xWF RX8 184 1 6 RX1 TX1 10 := ⟨inUX1, rfl, by decide, uw495⟩
theorem ks_X8_193 : xWS RX8 193 yX8_isUnder cX8_isUnder 4 (some .boolean) 2 := ⟨⟨uw496, uw497, uw498, uw499⟩, by decide +kernel⟩
theorem kf_X8_46 : xWF RX8 46 8 7 RX8 TX8 12 := ⟨inUX8, rfl, by decide, uw501⟩
theorem kv_X8_209 : xWV RX8 209 RX5 yX5_climb cX5_climb 3 none 1 := ⟨⟨uw502, uw503, uw504, uw223, uw505⟩, by decide +kernel⟩
theorem kv_X8_212 : xWV RX8 212 RX5 yX5_doFit cX5_doFit 4 (some .boolean) 1 := ⟨⟨uw506, uw507, uw508, uw223, uw509⟩, by decide +kernel⟩
theorem kf_X8_216 : xWF RX8 216 5 0 RX5 TX5 3 := ⟨inUX5, rfl, by decide, uw510⟩
theorem kv_X8_219 : xWV RX8 219 RX1 yX1_areBothWays cX1_areBothWays 3 (some .boolean) 2 := ⟨⟨uw511, uw199, uw200, uw19, uw201⟩, by decide +kernel⟩
theorem ks_X8_222 : xWS RX8 222 yX5_paperOf cX5_paperOf 3 (some .int) 3 := ⟨⟨uw512, uw203, uw204, uw205⟩, by decide +kernel⟩
theorem ks_X8_226 : xWS RX8 226 yX5_mostOffPaper cX5_mostOffPaper 4 (some .int) 1 := ⟨⟨uw513, uw514, uw515, uw516⟩, by decide +kernel⟩
theorem kf_X8_229 : xWF RX8 229 1 7 RX1 TX1 10 := ⟨inUX1, rfl, by decide, uw517⟩
theorem kv_X8_232 : xWV RX8 232 RX1 yX1_addWalk cX1_addWalk 5 (some .int) 3 := ⟨⟨uw518, uw353, uw354, uw19, uw355⟩, by decide +kernel⟩
theorem kv_X8_235 : xWV RX8 235 RX3 yX3_lastStop cX3_lastStop 2 (some .int) 1 := ⟨⟨uw519, uw155, uw156, uw42, uw157⟩, by decide +kernel⟩
theorem kf_X8_53 : xWF RX8 53 8 8 RX8 TX8 12 := ⟨inUX8, rfl, by decide, uw520⟩
theorem kv_X8_238 : xWV RX8 238 RX2 yX2_learnIn cX2_learnIn 5 (some .int) 1 := ⟨⟨uw521, uw522, uw523, uw248, uw524⟩, by decide +kernel⟩
theorem kf_X8_19 : xWF RX8 19 8 2 RX8 TX8 12 := ⟨inUX8, rfl, by decide, uw525⟩
theorem kv_X8_241 : xWV RX8 241 RX1 yX1_become cX1_become 2 none 1 := ⟨⟨uw526, uw527, uw528, uw19, uw529⟩, by decide +kernel⟩
theorem kf_X8_244 : xWF RX8 244 2 0 RX2 TX2 2 := ⟨inUX2, rfl, by decide, uw530⟩
theorem kv_X8_253 : xWV RX8 253 RX1 yX1_allBetweenEnds cX1_allBetweenEnds 3 (some .int) 0 := ⟨⟨uw531, uw532, uw533, uw19, uw534⟩, by decide +kernel⟩
theorem kv_X8_250 : xWV RX8 250 RX1 yX1_countUnknown cX1_countUnknown 3 (some .int) 0 := ⟨⟨uw535, uw536, uw537, uw19, uw538⟩, by decide +kernel⟩
theorem kv_X8_247 : xWV RX8 247 RX1 yX1_countWays cX1_countWays 3 (some .int) 0 := ⟨⟨uw539, uw540, uw541, uw19, uw542⟩, by decide +kernel⟩
theorem kv_X8_256 : xWV RX8 256 RX1 yX1_widestWay cX1_widestWay 4 (some .int) 0 := ⟨⟨uw543, uw544, uw545, uw19, uw546⟩, by decide +kernel⟩
theorem kf_X8_33 : xWF RX8 33 8 5 RX8 TX8 12 := ⟨inUX8, rfl, by decide, uw547⟩
theorem kv_X8_259 : xWV RX8 259 RX0 yX0_mendFrom cX0_mendFrom 13 (some .boolean) 4 := ⟨⟨uw548, uw549, uw550, uw84, uw551⟩, by decide +kernel⟩
theorem kv_X8_263 : xWV RX8 263 RX0 yX0_leastTrip cX0_leastTrip 3 (some .int) 1 := ⟨⟨uw552, uw553, uw554, uw84, uw555⟩, by decide +kernel⟩
theorem kv_X8_266 : xWV RX8 266 RX8 yX8_bestToMend cX8_bestToMend 7 (some .int) 1 := ⟨⟨uw556, uw557, uw558, uw414, uw559⟩, by decide +kernel⟩
theorem kv_X8_269 : xWV RX8 269 RX1 yX1_comesTo cX1_comesTo 5 (some .int) 2 := ⟨⟨uw560, uw62, uw63, uw19, uw64⟩, by decide +kernel⟩
theorem kv_X8_272 : xWV RX8 272 RX1 yX1_hollowSet cX1_hollowSet 5 (some .int) 0 := ⟨⟨uw561, uw562, uw563, uw19, uw564⟩, by decide +kernel⟩
theorem kf_X8_60 : xWF RX8 60 8 9 RX8 TX8 12 := ⟨inUX8, rfl, by decide, uw565⟩
theorem kf_X8_275 : xWF RX8 275 7 0 RX7 TX7 7 := ⟨inUX7, rfl, by decide, uw566⟩
theorem kv_X8_278 : xWV RX8 278 RX7 yX7_addByte cX7_addByte 2 none 1 := ⟨⟨uw567, uw568, uw569, uw299, uw570⟩, by decide +kernel⟩
theorem kv_X8_282 : xWV RX8 282 RX7 yX7_tellTo cX7_tellTo 3 (some .int) 1 := ⟨⟨uw571, uw572, uw573, uw299, uw574⟩, by decide +kernel⟩
theorem kf_X8_16 : xWF RX8 16 8 1 RX8 TX8 12 := ⟨inUX8, rfl, by decide, uw575⟩
theorem kf_X8_22 : xWF RX8 22 8 3 RX8 TX8 12 := ⟨inUX8, rfl, by decide, uw576⟩
theorem kf_X8_326 : xWF RX8 326 3 0 RX3 TX3 3 := ⟨inUX3, rfl, by decide, uw577⟩
theorem kv_X8_329 : xWV RX8 329 RX1 yX1_allErrands cX1_allErrands 3 (some .int) 0 := ⟨⟨uw578, uw579, uw580, uw19, uw581⟩, by decide +kernel⟩
