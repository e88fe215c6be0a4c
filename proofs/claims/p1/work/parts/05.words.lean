theorem uw0 : Cond.methodLink RX8 91 yX8_isWithin ∈ wsU := ut2 (List.mem_of_getElem? (i := 28) (by decide +kernel)) rfl
theorem uw1 : Cond.static yX8_isWithin ∈ wsU := ut2 (List.mem_of_getElem? (i := 29) (by decide +kernel)) rfl
theorem uw2 : Cond.initialized yX8_isWithin.cls ∈ wsU := ut1 (List.mem_of_getElem? (i := 1) (by decide +kernel)) rfl
theorem uw3 : Cond.code yX8_isWithin cX8_isWithin 3 (some .boolean) ∈ wsU := ut2 (List.mem_of_getElem? (i := 30) (by decide +kernel)) rfl
theorem uw4 : Cond.constant RX8 95 (-1000000001) ∈ wsU := ut2 (List.mem_of_getElem? (i := 15) (by decide +kernel)) rfl
theorem uw5 : Cond.fieldLink RX8 70 "LongerBack" "found" "[I" ∈ wsU := ut1 (List.mem_of_getElem? (i := 220) (by decide +kernel)) rfl
theorem uw6 : Cond.laysFinal RX8 "LongerBack" "here" "LLongerBack$Land;" ∈ wsU := ut1 (List.mem_of_getElem? (i := 221) (by decide +kernel)) rfl
theorem uw7 : Cond.laysFinal RX8 "LongerBack" "kept" "LLongerBack$Land;" ∈ wsU := ut1 (List.mem_of_getElem? (i := 223) (by decide +kernel)) rfl
theorem uw8 : Cond.laysFinal RX8 "LongerBack" "draft" "LLongerBack$Land;" ∈ wsU := ut1 (List.mem_of_getElem? (i := 225) (by decide +kernel)) rfl
theorem uw9 : Cond.lays RX8 "LongerBack" "isKept" "Z" ∈ wsU := ut1 (List.mem_of_getElem? (i := 227) (by decide +kernel)) rfl
theorem uw10 : Cond.laysFinal RX8 "LongerBack" "atlas" "LLongerBack$Atlas;" ∈ wsU := ut1 (List.mem_of_getElem? (i := 229) (by decide +kernel)) rfl
theorem uw11 : Cond.laysFinal RX8 "LongerBack" "mended" "LLongerBack$Atlas;" ∈ wsU := ut1 (List.mem_of_getElem? (i := 231) (by decide +kernel)) rfl
theorem uw12 : Cond.laysFinal RX8 "LongerBack" "sums" "LLongerBack$Sums;" ∈ wsU := ut1 (List.mem_of_getElem? (i := 233) (by decide +kernel)) rfl
theorem uw13 : Cond.laysFinal RX8 "LongerBack" "slopes" "LLongerBack$Slopes;" ∈ wsU := ut1 (List.mem_of_getElem? (i := 235) (by decide +kernel)) rfl
theorem uw14 : Cond.laysFinal RX8 "LongerBack" "learner" "LLongerBack$Learner;" ∈ wsU := ut1 (List.mem_of_getElem? (i := 237) (by decide +kernel)) rfl
theorem uw15 : Cond.laysFinal RX8 "LongerBack" "text" "LLongerBack$Text;" ∈ wsU := ut1 (List.mem_of_getElem? (i := 239) (by decide +kernel)) rfl
theorem uw16 : Cond.laysFinal RX8 "LongerBack" "sheets" "[LLongerBack$Sheet;" ∈ wsU := ut2 (List.mem_of_getElem? (i := 1) (by decide +kernel)) rfl
theorem uw17 : Cond.laysFinal RX8 "LongerBack" "found" "[I" ∈ wsU := ut2 (List.mem_of_getElem? (i := 3) (by decide +kernel)) rfl
theorem uw18 : Cond.fieldLink RX1 9 "LongerBack$Land" "places" "I" ∈ wsU := ut1 (List.mem_of_getElem? (i := 54) (by decide +kernel)) rfl
theorem uw19 : Cond.lays RX1 "LongerBack$Land" "places" "I" ∈ wsU := ut1 (List.mem_of_getElem? (i := 83) (by decide +kernel)) rfl
theorem uw20 : Cond.laysFinal RX1 "LongerBack$Land" "errands" "[I" ∈ wsU := ut1 (List.mem_of_getElem? (i := 85) (by decide +kernel)) rfl
theorem uw21 : Cond.laysFinal RX1 "LongerBack$Land" "low" "[I" ∈ wsU := ut1 (List.mem_of_getElem? (i := 87) (by decide +kernel)) rfl
theorem uw22 : Cond.laysFinal RX1 "LongerBack$Land" "high" "[I" ∈ wsU := ut1 (List.mem_of_getElem? (i := 89) (by decide +kernel)) rfl
theorem uw23 : Cond.laysFinal RX1 "LongerBack$Land" "doors" "[I" ∈ wsU := ut1 (List.mem_of_getElem? (i := 91) (by decide +kernel)) rfl
theorem uw24 : Cond.laysFinal RX1 "LongerBack$Land" "rounds" "LLongerBack$Rows;" ∈ wsU := ut1 (List.mem_of_getElem? (i := 93) (by decide +kernel)) rfl
theorem uw25 : Cond.laysFinal RX1 "LongerBack$Land" "kinds" "[I" ∈ wsU := ut1 (List.mem_of_getElem? (i := 95) (by decide +kernel)) rfl
theorem uw26 : Cond.laysFinal RX1 "LongerBack$Land" "walks" "LLongerBack$Rows;" ∈ wsU := ut1 (List.mem_of_getElem? (i := 97) (by decide +kernel)) rfl
theorem uw27 : Cond.laysFinal RX1 "LongerBack$Land" "totals" "[I" ∈ wsU := ut1 (List.mem_of_getElem? (i := 99) (by decide +kernel)) rfl
theorem uw28 : Cond.laysFinal RX1 "LongerBack$Land" "slacks" "[I" ∈ wsU := ut1 (List.mem_of_getElem? (i := 101) (by decide +kernel)) rfl
theorem uw29 : Cond.methodLink RX1 57 yX1_isPlace ∈ wsU := ut2 (List.mem_of_getElem? (i := 39) (by decide +kernel)) rfl
theorem uw30 : Cond.instanceMethod yX1_isPlace ∈ wsU := ut2 (List.mem_of_getElem? (i := 25) (by decide +kernel)) rfl
theorem uw31 : Cond.selects RX1 yX1_isPlace yX1_isPlace ∈ wsU := ut2 (List.mem_of_getElem? (i := 26) (by decide +kernel)) rfl
theorem uw32 : Cond.initialized RX1 ∈ wsU := ut1 (List.mem_of_getElem? (i := 2) (by decide +kernel)) rfl
theorem uw33 : Cond.code yX1_isPlace cX1_isPlace 3 (some .boolean) ∈ wsU := ut2 (List.mem_of_getElem? (i := 27) (by decide +kernel)) rfl
theorem uw34 : Cond.fieldLink RX3 9 "LongerBack$Rows" "count" "I" ∈ wsU := ut1 (List.mem_of_getElem? (i := 37) (by decide +kernel)) rfl
theorem uw35 : Cond.lays RX3 "LongerBack$Rows" "count" "I" ∈ wsU := ut1 (List.mem_of_getElem? (i := 46) (by decide +kernel)) rfl
theorem uw36 : Cond.laysFinal RX3 "LongerBack$Rows" "lengths" "[I" ∈ wsU := ut1 (List.mem_of_getElem? (i := 48) (by decide +kernel)) rfl
theorem uw37 : Cond.laysFinal RX3 "LongerBack$Rows" "stops" "[I" ∈ wsU := ut1 (List.mem_of_getElem? (i := 50) (by decide +kernel)) rfl
theorem uw38 : Cond.fieldLink RX1 25 "LongerBack$Land" "doors" "[I" ∈ wsU := ut1 (List.mem_of_getElem? (i := 66) (by decide +kernel)) rfl
theorem uw39 : Cond.fieldLink RX1 15 "LongerBack$Land" "errands" "[I" ∈ wsU := ut1 (List.mem_of_getElem? (i := 59) (by decide +kernel)) rfl
theorem uw40 : Cond.fieldLink RX0 19 "LongerBack$Land" "places" "I" ∈ wsU := ut1 (List.mem_of_getElem? (i := 55) (by decide +kernel)) rfl
theorem uw41 : Cond.fieldLink RX0 9 "LongerBack$Atlas" "places" "I" ∈ wsU := ut1 (List.mem_of_getElem? (i := 110) (by decide +kernel)) rfl
theorem uw42 : Cond.lays RX0 "LongerBack$Atlas" "places" "I" ∈ wsU := ut1 (List.mem_of_getElem? (i := 112) (by decide +kernel)) rfl
theorem uw43 : Cond.laysFinal RX0 "LongerBack$Atlas" "lengths" "[I" ∈ wsU := ut1 (List.mem_of_getElem? (i := 114) (by decide +kernel)) rfl
theorem uw44 : Cond.constant RX0 38 1000000000 ∈ wsU := ut2 (List.mem_of_getElem? (i := 96) (by decide +kernel)) rfl
theorem uw45 : Cond.methodLink RX0 73 yX0_homeOf ∈ wsU := ut3 (List.mem_of_getElem? (i := 202) (by decide +kernel)) rfl
theorem uw46 : Cond.instanceMethod yX0_homeOf ∈ wsU := ut3 (List.mem_of_getElem? (i := 45) (by decide +kernel)) rfl
theorem uw47 : Cond.selects RX0 yX0_homeOf yX0_homeOf ∈ wsU := ut3 (List.mem_of_getElem? (i := 46) (by decide +kernel)) rfl
theorem uw48 : Cond.initialized RX0 ∈ wsU := ut1 (List.mem_of_getElem? (i := 4) (by decide +kernel)) rfl
theorem uw49 : Cond.code yX0_homeOf cX0_homeOf 6 (some .int) ∈ wsU := ut3 (List.mem_of_getElem? (i := 47) (by decide +kernel)) rfl
theorem uw50 : Cond.fieldLink RX5 22 "LongerBack$Land" "places" "I" ∈ wsU := ut1 (List.mem_of_getElem? (i := 57) (by decide +kernel)) rfl
theorem uw51 : Cond.fieldLink RX2 7 "LongerBack$Learner" "liars" "I" ∈ wsU := ut1 (List.mem_of_getElem? (i := 151) (by decide +kernel)) rfl
theorem uw52 : Cond.lays RX2 "LongerBack$Learner" "liars" "I" ∈ wsU := ut1 (List.mem_of_getElem? (i := 154) (by decide +kernel)) rfl
theorem uw53 : Cond.lays RX2 "LongerBack$Learner" "isChanged" "Z" ∈ wsU := ut1 (List.mem_of_getElem? (i := 156) (by decide +kernel)) rfl
theorem uw54 : Cond.fieldLink RX2 13 "LongerBack$Learner" "isChanged" "Z" ∈ wsU := ut1 (List.mem_of_getElem? (i := 153) (by decide +kernel)) rfl
theorem uw55 : Cond.fieldLink RX2 17 "LongerBack$Land" "walks" "LLongerBack$Rows;" ∈ wsU := ut1 (List.mem_of_getElem? (i := 74) (by decide +kernel)) rfl
theorem uw56 : Cond.fieldLink RX2 23 "LongerBack$Rows" "count" "I" ∈ wsU := ut1 (List.mem_of_getElem? (i := 38) (by decide +kernel)) rfl
theorem uw57 : Cond.fieldLink RX3 15 "LongerBack$Rows" "lengths" "[I" ∈ wsU := ut1 (List.mem_of_getElem? (i := 40) (by decide +kernel)) rfl
theorem uw58 : Cond.methodLink RX3 29 arraycopyName ∈ wsU := ut3 (List.mem_of_getElem? (i := 164) (by decide +kernel)) rfl
theorem uw59 : Cond.native arraycopyName ∈ wsU := ut3 (List.mem_of_getElem? (i := 159) (by decide +kernel)) rfl
theorem uw60 : Cond.static arraycopyName ∈ wsU := ut3 (List.mem_of_getElem? (i := 158) (by decide +kernel)) rfl
theorem uw61 : Cond.initialized "java/lang/System" ∈ wsU := ut1 (List.mem_of_getElem? (i := 12) (by decide +kernel)) rfl
theorem uw62 : Cond.fieldLink RX3 19 "LongerBack$Rows" "stops" "[I" ∈ wsU := ut1 (List.mem_of_getElem? (i := 45) (by decide +kernel)) rfl
theorem uw63 : Cond.methodLink RX1 47 arraycopyName ∈ wsU := ut3 (List.mem_of_getElem? (i := 157) (by decide +kernel)) rfl
theorem uw64 : Cond.fieldLink RX1 19 "LongerBack$Land" "low" "[I" ∈ wsU := ut1 (List.mem_of_getElem? (i := 62) (by decide +kernel)) rfl
theorem uw65 : Cond.fieldLink RX1 22 "LongerBack$Land" "high" "[I" ∈ wsU := ut1 (List.mem_of_getElem? (i := 64) (by decide +kernel)) rfl
theorem uw66 : Cond.fieldLink RX1 31 "LongerBack$Land" "rounds" "LLongerBack$Rows;" ∈ wsU := ut1 (List.mem_of_getElem? (i := 67) (by decide +kernel)) rfl
theorem uw67 : Cond.methodLink RX1 53 yX3_become ∈ wsU := ut3 (List.mem_of_getElem? (i := 160) (by decide +kernel)) rfl
theorem uw68 : Cond.instanceMethod yX3_become ∈ wsU := ut3 (List.mem_of_getElem? (i := 161) (by decide +kernel)) rfl
theorem uw69 : Cond.selects RX3 yX3_become yX3_become ∈ wsU := ut3 (List.mem_of_getElem? (i := 162) (by decide +kernel)) rfl
theorem uw70 : Cond.initialized RX3 ∈ wsU := ut1 (List.mem_of_getElem? (i := 3) (by decide +kernel)) rfl
theorem uw71 : Cond.code yX3_become cX3_become 2 none ∈ wsU := ut3 (List.mem_of_getElem? (i := 163) (by decide +kernel)) rfl
theorem uw72 : Cond.fieldLink RX1 35 "LongerBack$Land" "kinds" "[I" ∈ wsU := ut1 (List.mem_of_getElem? (i := 70) (by decide +kernel)) rfl
theorem uw73 : Cond.fieldLink RX1 38 "LongerBack$Land" "walks" "LLongerBack$Rows;" ∈ wsU := ut1 (List.mem_of_getElem? (i := 73) (by decide +kernel)) rfl
theorem uw74 : Cond.fieldLink RX1 41 "LongerBack$Land" "totals" "[I" ∈ wsU := ut1 (List.mem_of_getElem? (i := 77) (by decide +kernel)) rfl
theorem uw75 : Cond.fieldLink RX1 44 "LongerBack$Land" "slacks" "[I" ∈ wsU := ut1 (List.mem_of_getElem? (i := 80) (by decide +kernel)) rfl
theorem uw76 : Cond.fieldLink RX7 9 "LongerBack$Text" "size" "I" ∈ wsU := ut1 (List.mem_of_getElem? (i := 165) (by decide +kernel)) rfl
theorem uw77 : Cond.lays RX7 "LongerBack$Text" "size" "I" ∈ wsU := ut1 (List.mem_of_getElem? (i := 173) (by decide +kernel)) rfl
theorem uw78 : Cond.laysFinal RX7 "LongerBack$Text" "bytes" "[I" ∈ wsU := ut1 (List.mem_of_getElem? (i := 175) (by decide +kernel)) rfl
theorem uw79 : Cond.lays RX7 "LongerBack$Text" "token" "I" ∈ wsU := ut1 (List.mem_of_getElem? (i := 177) (by decide +kernel)) rfl
theorem uw80 : Cond.lays RX7 "LongerBack$Text" "start" "I" ∈ wsU := ut1 (List.mem_of_getElem? (i := 179) (by decide +kernel)) rfl
theorem uw81 : Cond.lays RX7 "LongerBack$Text" "next" "I" ∈ wsU := ut1 (List.mem_of_getElem? (i := 181) (by decide +kernel)) rfl
theorem uw82 : Cond.lays RX7 "LongerBack$Text" "value" "I" ∈ wsU := ut1 (List.mem_of_getElem? (i := 183) (by decide +kernel)) rfl
theorem uw83 : Cond.lays RX7 "LongerBack$Text" "taken" "I" ∈ wsU := ut1 (List.mem_of_getElem? (i := 185) (by decide +kernel)) rfl
theorem uw84 : Cond.fieldLink RX7 25 "LongerBack$Text" "next" "I" ∈ wsU := ut1 (List.mem_of_getElem? (i := 170) (by decide +kernel)) rfl
theorem uw85 : Cond.fieldLink RX7 22 "LongerBack$Text" "start" "I" ∈ wsU := ut1 (List.mem_of_getElem? (i := 169) (by decide +kernel)) rfl
theorem uw86 : Cond.methodLink RX7 142 yX7_kindAt ∈ wsU := ut4 (List.mem_of_getElem? (i := 18) (by decide +kernel)) rfl
theorem uw87 : Cond.instanceMethod yX7_kindAt ∈ wsU := ut4 (List.mem_of_getElem? (i := 20) (by decide +kernel)) rfl
theorem uw88 : Cond.selects RX7 yX7_kindAt yX7_kindAt ∈ wsU := us_sel (q := (yX7_kindAt, 7)) (List.mem_of_getElem? (i := 16) (by decide +kernel)) rfl
theorem uw89 : Cond.initialized RX7 ∈ wsU := ut1 (List.mem_of_getElem? (i := 8) (by decide +kernel)) rfl
theorem uw90 : Cond.code yX7_kindAt cX7_kindAt 3 (some .int) ∈ wsU := ut4 (List.mem_of_getElem? (i := 21) (by decide +kernel)) rfl
theorem uw91 : Cond.fieldLink RX7 19 "LongerBack$Text" "token" "I" ∈ wsU := ut1 (List.mem_of_getElem? (i := 168) (by decide +kernel)) rfl
theorem uw92 : Cond.fieldLink RX7 28 "LongerBack$Text" "value" "I" ∈ wsU := ut1 (List.mem_of_getElem? (i := 171) (by decide +kernel)) rfl
theorem uw93 : Cond.methodLink RX7 43 yX7_isWord ∈ wsU := ut4 (List.mem_of_getElem? (i := 28) (by decide +kernel)) rfl
theorem uw94 : Cond.instanceMethod yX7_isWord ∈ wsU := ut4 (List.mem_of_getElem? (i := 30) (by decide +kernel)) rfl
theorem uw95 : Cond.selects RX7 yX7_isWord yX7_isWord ∈ wsU := us_sel (q := (yX7_isWord, 7)) (List.mem_of_getElem? (i := 18) (by decide +kernel)) rfl
theorem uw96 : Cond.code yX7_isWord cX7_isWord 3 (some .boolean) ∈ wsU := ut4 (List.mem_of_getElem? (i := 31) (by decide +kernel)) rfl
theorem uw97 : Cond.methodLink RX7 34 yX7_step ∈ wsU := ut4 (List.mem_of_getElem? (i := 14) (by decide +kernel)) rfl
theorem uw98 : Cond.instanceMethod yX7_step ∈ wsU := ut4 (List.mem_of_getElem? (i := 16) (by decide +kernel)) rfl
theorem uw99 : Cond.selects RX7 yX7_step yX7_step ∈ wsU := us_sel (q := (yX7_step, 7)) (List.mem_of_getElem? (i := 15) (by decide +kernel)) rfl
theorem uw100 : Cond.code yX7_step cX7_step 3 none ∈ wsU := ut4 (List.mem_of_getElem? (i := 17) (by decide +kernel)) rfl
theorem uw101 : Cond.methodLink RX7 37 yX7_takeItem ∈ wsU := ut4 (List.mem_of_getElem? (i := 23) (by decide +kernel)) rfl
theorem uw102 : Cond.instanceMethod yX7_takeItem ∈ wsU := ut4 (List.mem_of_getElem? (i := 25) (by decide +kernel)) rfl
theorem uw103 : Cond.selects RX7 yX7_takeItem yX7_takeItem ∈ wsU := us_sel (q := (yX7_takeItem, 7)) (List.mem_of_getElem? (i := 17) (by decide +kernel)) rfl
theorem uw104 : Cond.code yX7_takeItem cX7_takeItem 2 (some .boolean) ∈ wsU := ut4 (List.mem_of_getElem? (i := 26) (by decide +kernel)) rfl
theorem uw105 : Cond.fieldLink RX7 15 "LongerBack$Text" "bytes" "[I" ∈ wsU := ut1 (List.mem_of_getElem? (i := 167) (by decide +kernel)) rfl
theorem uw106 : Cond.fieldLink RX4 9 "LongerBack$Sheet" "bits" "I" ∈ wsU := ut1 (List.mem_of_getElem? (i := 195) (by decide +kernel)) rfl
theorem uw107 : Cond.lays RX4 "LongerBack$Sheet" "bits" "I" ∈ wsU := ut1 (List.mem_of_getElem? (i := 201) (by decide +kernel)) rfl
theorem uw108 : Cond.lays RX4 "LongerBack$Sheet" "size" "I" ∈ wsU := ut1 (List.mem_of_getElem? (i := 203) (by decide +kernel)) rfl
theorem uw109 : Cond.laysFinal RX4 "LongerBack$Sheet" "numbers" "[J" ∈ wsU := ut1 (List.mem_of_getElem? (i := 205) (by decide +kernel)) rfl
theorem uw110 : Cond.fieldLink RX4 15 "LongerBack$Sheet" "size" "I" ∈ wsU := ut1 (List.mem_of_getElem? (i := 197) (by decide +kernel)) rfl
theorem uw111 : Cond.fieldLink RX4 18 "LongerBack$Sheet" "numbers" "[J" ∈ wsU := ut1 (List.mem_of_getElem? (i := 199) (by decide +kernel)) rfl
theorem uw112 : Cond.fieldLink RX8 29 "LongerBack" "atlas" "LLongerBack$Atlas;" ∈ wsU := ut1 (List.mem_of_getElem? (i := 213) (by decide +kernel)) rfl
theorem uw113 : Cond.fieldLink RX8 12 "LongerBack" "here" "LLongerBack$Land;" ∈ wsU := ut1 (List.mem_of_getElem? (i := 209) (by decide +kernel)) rfl
theorem uw114 : Cond.methodLink RX8 146 yX0_measure ∈ wsU := ut2 (List.mem_of_getElem? (i := 87) (by decide +kernel)) rfl
theorem uw115 : Cond.instanceMethod yX0_measure ∈ wsU := ut2 (List.mem_of_getElem? (i := 88) (by decide +kernel)) rfl
theorem uw116 : Cond.selects RX0 yX0_measure yX0_measure ∈ wsU := ut2 (List.mem_of_getElem? (i := 89) (by decide +kernel)) rfl
theorem uw117 : Cond.code yX0_measure cX0_measure 4 none ∈ wsU := ut2 (List.mem_of_getElem? (i := 90) (by decide +kernel)) rfl
theorem uw118 : Cond.methodLink RX8 332 yX0_hasLoop ∈ wsU := ut2 (List.mem_of_getElem? (i := 113) (by decide +kernel)) rfl
theorem uw119 : Cond.instanceMethod yX0_hasLoop ∈ wsU := ut2 (List.mem_of_getElem? (i := 114) (by decide +kernel)) rfl
theorem uw120 : Cond.selects RX0 yX0_hasLoop yX0_hasLoop ∈ wsU := ut2 (List.mem_of_getElem? (i := 115) (by decide +kernel)) rfl
theorem uw121 : Cond.code yX0_hasLoop cX0_hasLoop 2 (some .boolean) ∈ wsU := ut2 (List.mem_of_getElem? (i := 116) (by decide +kernel)) rfl
theorem uw122 : Cond.fieldLink RX8 75 "LongerBack$Land" "places" "I" ∈ wsU := ut1 (List.mem_of_getElem? (i := 56) (by decide +kernel)) rfl
theorem uw123 : Cond.methodLink RX8 84 yX1_addPlace ∈ wsU := ut2 (List.mem_of_getElem? (i := 16) (by decide +kernel)) rfl
theorem uw124 : Cond.instanceMethod yX1_addPlace ∈ wsU := ut2 (List.mem_of_getElem? (i := 17) (by decide +kernel)) rfl
theorem uw125 : Cond.selects RX1 yX1_addPlace yX1_addPlace ∈ wsU := ut2 (List.mem_of_getElem? (i := 18) (by decide +kernel)) rfl
theorem uw126 : Cond.code yX1_addPlace cX1_addPlace 3 (some .int) ∈ wsU := ut2 (List.mem_of_getElem? (i := 19) (by decide +kernel)) rfl
theorem uw127 : Cond.methodLink RX8 87 yX1_isPlace ∈ wsU := ut2 (List.mem_of_getElem? (i := 24) (by decide +kernel)) rfl
theorem uw128 : Cond.methodLink RX8 80 yX8_finding ∈ wsU := ut2 (List.mem_of_getElem? (i := 11) (by decide +kernel)) rfl
theorem uw129 : Cond.instanceMethod yX8_finding ∈ wsU := ut2 (List.mem_of_getElem? (i := 13) (by decide +kernel)) rfl
theorem uw130 : Cond.selects RX8 yX8_finding yX8_finding ∈ wsU := us_sel (q := (yX8_finding, 12)) (List.mem_of_getElem? (i := 0) (by decide +kernel)) rfl
theorem uw131 : Cond.initialized RX8 ∈ wsU := ut1 (List.mem_of_getElem? (i := 1) (by decide +kernel)) rfl
theorem uw132 : Cond.code yX8_finding cX8_finding 3 (some .int) ∈ wsU := ut2 (List.mem_of_getElem? (i := 14) (by decide +kernel)) rfl
theorem uw133 : Cond.methodLink RX8 99 yX1_areTwo ∈ wsU := ut2 (List.mem_of_getElem? (i := 35) (by decide +kernel)) rfl
theorem uw134 : Cond.instanceMethod yX1_areTwo ∈ wsU := ut2 (List.mem_of_getElem? (i := 36) (by decide +kernel)) rfl
theorem uw135 : Cond.selects RX1 yX1_areTwo yX1_areTwo ∈ wsU := ut2 (List.mem_of_getElem? (i := 37) (by decide +kernel)) rfl
theorem uw136 : Cond.code yX1_areTwo cX1_areTwo 3 (some .boolean) ∈ wsU := ut2 (List.mem_of_getElem? (i := 38) (by decide +kernel)) rfl
theorem uw137 : Cond.methodLink RX8 155 yX8_isKind ∈ wsU := ut2 (List.mem_of_getElem? (i := 168) (by decide +kernel)) rfl
theorem uw138 : Cond.static yX8_isKind ∈ wsU := ut2 (List.mem_of_getElem? (i := 169) (by decide +kernel)) rfl
theorem uw139 : Cond.initialized yX8_isKind.cls ∈ wsU := ut1 (List.mem_of_getElem? (i := 1) (by decide +kernel)) rfl
theorem uw140 : Cond.code yX8_isKind cX8_isKind 1 (some .boolean) ∈ wsU := ut2 (List.mem_of_getElem? (i := 170) (by decide +kernel)) rfl
theorem uw141 : Cond.fieldLink RX8 159 "LongerBack$Land" "rounds" "LLongerBack$Rows;" ∈ wsU := ut1 (List.mem_of_getElem? (i := 69) (by decide +kernel)) rfl
theorem uw142 : Cond.methodLink RX8 171 yX3_has ∈ wsU := ut2 (List.mem_of_getElem? (i := 191) (by decide +kernel)) rfl
theorem uw143 : Cond.instanceMethod yX3_has ∈ wsU := ut2 (List.mem_of_getElem? (i := 192) (by decide +kernel)) rfl
theorem uw144 : Cond.selects RX3 yX3_has yX3_has ∈ wsU := ut2 (List.mem_of_getElem? (i := 193) (by decide +kernel)) rfl
theorem uw145 : Cond.code yX3_has cX3_has 2 (some .boolean) ∈ wsU := ut2 (List.mem_of_getElem? (i := 194) (by decide +kernel)) rfl
theorem uw146 : Cond.fieldLink RX8 229 "LongerBack$Land" "walks" "LLongerBack$Rows;" ∈ wsU := ut1 (List.mem_of_getElem? (i := 76) (by decide +kernel)) rfl
theorem uw147 : Cond.methodLink RX8 150 yX0_loopSet ∈ wsU := ut2 (List.mem_of_getElem? (i := 152) (by decide +kernel)) rfl
theorem uw148 : Cond.instanceMethod yX0_loopSet ∈ wsU := ut2 (List.mem_of_getElem? (i := 153) (by decide +kernel)) rfl
theorem uw149 : Cond.selects RX0 yX0_loopSet yX0_loopSet ∈ wsU := ut2 (List.mem_of_getElem? (i := 154) (by decide +kernel)) rfl
theorem uw150 : Cond.code yX0_loopSet cX0_loopSet 4 (some .int) ∈ wsU := ut2 (List.mem_of_getElem? (i := 155) (by decide +kernel)) rfl
theorem uw151 : Cond.methodLink RX8 128 yX8_isLooped ∈ wsU := ut2 (List.mem_of_getElem? (i := 83) (by decide +kernel)) rfl
theorem uw152 : Cond.instanceMethod yX8_isLooped ∈ wsU := ut2 (List.mem_of_getElem? (i := 85) (by decide +kernel)) rfl
theorem uw153 : Cond.selects RX8 yX8_isLooped yX8_isLooped ∈ wsU := us_sel (q := (yX8_isLooped, 12)) (List.mem_of_getElem? (i := 1) (by decide +kernel)) rfl
theorem uw154 : Cond.code yX8_isLooped cX8_isLooped 1 (some .boolean) ∈ wsU := ut2 (List.mem_of_getElem? (i := 86) (by decide +kernel)) rfl
theorem uw155 : Cond.methodLink RX8 197 yX0_homeOf ∈ wsU := ut3 (List.mem_of_getElem? (i := 44) (by decide +kernel)) rfl
theorem uw156 : Cond.constant RX8 113 (-1000000004) ∈ wsU := ut2 (List.mem_of_getElem? (i := 58) (by decide +kernel)) rfl
theorem uw157 : Cond.methodLink RX8 263 yX0_leastTrip ∈ wsU := ut3 (List.mem_of_getElem? (i := 198) (by decide +kernel)) rfl
theorem uw158 : Cond.instanceMethod yX0_leastTrip ∈ wsU := ut3 (List.mem_of_getElem? (i := 199) (by decide +kernel)) rfl
theorem uw159 : Cond.selects RX0 yX0_leastTrip yX0_leastTrip ∈ wsU := ut3 (List.mem_of_getElem? (i := 200) (by decide +kernel)) rfl
theorem uw160 : Cond.code yX0_leastTrip cX0_leastTrip 3 (some .int) ∈ wsU := ut3 (List.mem_of_getElem? (i := 201) (by decide +kernel)) rfl
theorem uw161 : Cond.constant RX8 154 1000000000 ∈ wsU := ut2 (List.mem_of_getElem? (i := 108) (by decide +kernel)) rfl
theorem uw162 : Cond.fieldLink RX8 46 "LongerBack" "slopes" "LLongerBack$Slopes;" ∈ wsU := ut1 (List.mem_of_getElem? (i := 216) (by decide +kernel)) rfl
theorem uw163 : Cond.methodLink RX8 209 yX5_climb ∈ wsU := ut3 (List.mem_of_getElem? (i := 66) (by decide +kernel)) rfl
theorem uw164 : Cond.instanceMethod yX5_climb ∈ wsU := ut3 (List.mem_of_getElem? (i := 67) (by decide +kernel)) rfl
theorem uw165 : Cond.selects RX5 yX5_climb yX5_climb ∈ wsU := ut3 (List.mem_of_getElem? (i := 68) (by decide +kernel)) rfl
theorem uw166 : Cond.initialized RX5 ∈ wsU := ut1 (List.mem_of_getElem? (i := 6) (by decide +kernel)) rfl
theorem uw167 : Cond.code yX5_climb cX5_climb 3 none ∈ wsU := ut3 (List.mem_of_getElem? (i := 69) (by decide +kernel)) rfl
theorem uw168 : Cond.methodLink RX8 212 yX5_doFit ∈ wsU := ut3 (List.mem_of_getElem? (i := 83) (by decide +kernel)) rfl
theorem uw169 : Cond.instanceMethod yX5_doFit ∈ wsU := ut3 (List.mem_of_getElem? (i := 84) (by decide +kernel)) rfl
theorem uw170 : Cond.selects RX5 yX5_doFit yX5_doFit ∈ wsU := ut3 (List.mem_of_getElem? (i := 85) (by decide +kernel)) rfl
theorem uw171 : Cond.code yX5_doFit cX5_doFit 4 (some .boolean) ∈ wsU := ut3 (List.mem_of_getElem? (i := 86) (by decide +kernel)) rfl
theorem uw172 : Cond.methodLink RX8 226 yX5_mostOffPaper ∈ wsU := ut3 (List.mem_of_getElem? (i := 103) (by decide +kernel)) rfl
theorem uw173 : Cond.static yX5_mostOffPaper ∈ wsU := ut3 (List.mem_of_getElem? (i := 104) (by decide +kernel)) rfl
theorem uw174 : Cond.initialized yX5_mostOffPaper.cls ∈ wsU := ut1 (List.mem_of_getElem? (i := 6) (by decide +kernel)) rfl
theorem uw175 : Cond.code yX5_mostOffPaper cX5_mostOffPaper 4 (some .int) ∈ wsU := ut3 (List.mem_of_getElem? (i := 105) (by decide +kernel)) rfl
theorem uw176 : Cond.fieldLink RX8 53 "LongerBack" "learner" "LLongerBack$Learner;" ∈ wsU := ut1 (List.mem_of_getElem? (i := 217) (by decide +kernel)) rfl
theorem uw177 : Cond.methodLink RX8 238 yX2_learnIn ∈ wsU := ut3 (List.mem_of_getElem? (i := 128) (by decide +kernel)) rfl
theorem uw178 : Cond.instanceMethod yX2_learnIn ∈ wsU := ut3 (List.mem_of_getElem? (i := 129) (by decide +kernel)) rfl
theorem uw179 : Cond.selects RX2 yX2_learnIn yX2_learnIn ∈ wsU := ut3 (List.mem_of_getElem? (i := 130) (by decide +kernel)) rfl
theorem uw180 : Cond.initialized RX2 ∈ wsU := ut1 (List.mem_of_getElem? (i := 7) (by decide +kernel)) rfl
theorem uw181 : Cond.code yX2_learnIn cX2_learnIn 5 (some .int) ∈ wsU := ut3 (List.mem_of_getElem? (i := 131) (by decide +kernel)) rfl
theorem uw182 : Cond.fieldLink RX8 19 "LongerBack" "draft" "LLongerBack$Land;" ∈ wsU := ut1 (List.mem_of_getElem? (i := 211) (by decide +kernel)) rfl
theorem uw183 : Cond.methodLink RX8 241 yX1_become ∈ wsU := ut3 (List.mem_of_getElem? (i := 153) (by decide +kernel)) rfl
theorem uw184 : Cond.instanceMethod yX1_become ∈ wsU := ut3 (List.mem_of_getElem? (i := 154) (by decide +kernel)) rfl
theorem uw185 : Cond.selects RX1 yX1_become yX1_become ∈ wsU := ut3 (List.mem_of_getElem? (i := 155) (by decide +kernel)) rfl
theorem uw186 : Cond.code yX1_become cX1_become 2 none ∈ wsU := ut3 (List.mem_of_getElem? (i := 156) (by decide +kernel)) rfl
theorem uw187 : Cond.fieldLink RX8 244 "LongerBack$Learner" "liars" "I" ∈ wsU := ut1 (List.mem_of_getElem? (i := 152) (by decide +kernel)) rfl
theorem uw188 : Cond.methodLink RX8 256 yX1_widestWay ∈ wsU := ut3 (List.mem_of_getElem? (i := 185) (by decide +kernel)) rfl
theorem uw189 : Cond.instanceMethod yX1_widestWay ∈ wsU := ut3 (List.mem_of_getElem? (i := 186) (by decide +kernel)) rfl
theorem uw190 : Cond.selects RX1 yX1_widestWay yX1_widestWay ∈ wsU := ut3 (List.mem_of_getElem? (i := 187) (by decide +kernel)) rfl
theorem uw191 : Cond.code yX1_widestWay cX1_widestWay 4 (some .int) ∈ wsU := ut3 (List.mem_of_getElem? (i := 188) (by decide +kernel)) rfl
theorem uw192 : Cond.methodLink RX8 272 yX1_hollowSet ∈ wsU := ut3 (List.mem_of_getElem? (i := 229) (by decide +kernel)) rfl
theorem uw193 : Cond.instanceMethod yX1_hollowSet ∈ wsU := ut3 (List.mem_of_getElem? (i := 230) (by decide +kernel)) rfl
theorem uw194 : Cond.selects RX1 yX1_hollowSet yX1_hollowSet ∈ wsU := ut3 (List.mem_of_getElem? (i := 231) (by decide +kernel)) rfl
theorem uw195 : Cond.code yX1_hollowSet cX1_hollowSet 5 (some .int) ∈ wsU := ut3 (List.mem_of_getElem? (i := 232) (by decide +kernel)) rfl
theorem uw196 : Cond.fieldLink RX8 60 "LongerBack" "text" "LLongerBack$Text;" ∈ wsU := ut1 (List.mem_of_getElem? (i := 218) (by decide +kernel)) rfl
theorem uw197 : Cond.fieldLink RX8 275 "LongerBack$Text" "size" "I" ∈ wsU := ut1 (List.mem_of_getElem? (i := 166) (by decide +kernel)) rfl
theorem uw198 : Cond.methodLink RX8 282 yX7_tellTo ∈ wsU := ut4 (List.mem_of_getElem? (i := 10) (by decide +kernel)) rfl
theorem uw199 : Cond.instanceMethod yX7_tellTo ∈ wsU := ut4 (List.mem_of_getElem? (i := 11) (by decide +kernel)) rfl
theorem uw200 : Cond.selects RX7 yX7_tellTo yX7_tellTo ∈ wsU := ut4 (List.mem_of_getElem? (i := 12) (by decide +kernel)) rfl
theorem uw201 : Cond.code yX7_tellTo cX7_tellTo 3 (some .int) ∈ wsU := ut4 (List.mem_of_getElem? (i := 13) (by decide +kernel)) rfl
theorem uw202 : Cond.fieldLink RX8 16 "LongerBack" "kept" "LLongerBack$Land;" ∈ wsU := ut1 (List.mem_of_getElem? (i := 210) (by decide +kernel)) rfl
theorem uw203 : Cond.fieldLink RX8 22 "LongerBack" "isKept" "Z" ∈ wsU := ut1 (List.mem_of_getElem? (i := 212) (by decide +kernel)) rfl
theorem uw204 : Cond.methodLink RX8 253 yX1_allBetweenEnds ∈ wsU := ut3 (List.mem_of_getElem? (i := 177) (by decide +kernel)) rfl
theorem uw205 : Cond.instanceMethod yX1_allBetweenEnds ∈ wsU := ut3 (List.mem_of_getElem? (i := 178) (by decide +kernel)) rfl
theorem uw206 : Cond.selects RX1 yX1_allBetweenEnds yX1_allBetweenEnds ∈ wsU := ut3 (List.mem_of_getElem? (i := 179) (by decide +kernel)) rfl
theorem uw207 : Cond.code yX1_allBetweenEnds cX1_allBetweenEnds 3 (some .int) ∈ wsU := ut3 (List.mem_of_getElem? (i := 180) (by decide +kernel)) rfl
theorem uw208 : Cond.methodLink RX8 250 yX1_countUnknown ∈ wsU := ut3 (List.mem_of_getElem? (i := 173) (by decide +kernel)) rfl
theorem uw209 : Cond.instanceMethod yX1_countUnknown ∈ wsU := ut3 (List.mem_of_getElem? (i := 174) (by decide +kernel)) rfl
theorem uw210 : Cond.selects RX1 yX1_countUnknown yX1_countUnknown ∈ wsU := ut3 (List.mem_of_getElem? (i := 175) (by decide +kernel)) rfl
theorem uw211 : Cond.code yX1_countUnknown cX1_countUnknown 3 (some .int) ∈ wsU := ut3 (List.mem_of_getElem? (i := 176) (by decide +kernel)) rfl
theorem uw212 : Cond.methodLink RX8 247 yX1_countWays ∈ wsU := ut3 (List.mem_of_getElem? (i := 169) (by decide +kernel)) rfl
theorem uw213 : Cond.instanceMethod yX1_countWays ∈ wsU := ut3 (List.mem_of_getElem? (i := 170) (by decide +kernel)) rfl
theorem uw214 : Cond.selects RX1 yX1_countWays yX1_countWays ∈ wsU := ut3 (List.mem_of_getElem? (i := 171) (by decide +kernel)) rfl
theorem uw215 : Cond.code yX1_countWays cX1_countWays 3 (some .int) ∈ wsU := ut3 (List.mem_of_getElem? (i := 172) (by decide +kernel)) rfl
theorem uw216 : Cond.methodLink RX8 278 yX7_addByte ∈ wsU := ut3 (List.mem_of_getElem? (i := 238) (by decide +kernel)) rfl
theorem uw217 : Cond.instanceMethod yX7_addByte ∈ wsU := ut3 (List.mem_of_getElem? (i := 239) (by decide +kernel)) rfl
theorem uw218 : Cond.selects RX7 yX7_addByte yX7_addByte ∈ wsU := ut4 (List.mem_of_getElem? (i := 0) (by decide +kernel)) rfl
theorem uw219 : Cond.code yX7_addByte cX7_addByte 2 none ∈ wsU := ut4 (List.mem_of_getElem? (i := 1) (by decide +kernel)) rfl
theorem uw220 : Cond.methodLink RX8 285 yX8_isSheet ∈ wsU := ut4 (List.mem_of_getElem? (i := 130) (by decide +kernel)) rfl
theorem uw221 : Cond.static yX8_isSheet ∈ wsU := ut4 (List.mem_of_getElem? (i := 131) (by decide +kernel)) rfl
theorem uw222 : Cond.initialized yX8_isSheet.cls ∈ wsU := ut1 (List.mem_of_getElem? (i := 1) (by decide +kernel)) rfl
theorem uw223 : Cond.code yX8_isSheet cX8_isSheet 1 (some .boolean) ∈ wsU := ut4 (List.mem_of_getElem? (i := 132) (by decide +kernel)) rfl
theorem uw224 : Cond.fieldLink RX8 66 "LongerBack" "sheets" "[LLongerBack$Sheet;" ∈ wsU := ut1 (List.mem_of_getElem? (i := 219) (by decide +kernel)) rfl
theorem uw225 : Cond.methodLink RX8 289 yX4_begin ∈ wsU := ut4 (List.mem_of_getElem? (i := 134) (by decide +kernel)) rfl
theorem uw226 : Cond.instanceMethod yX4_begin ∈ wsU := ut4 (List.mem_of_getElem? (i := 135) (by decide +kernel)) rfl
theorem uw227 : Cond.selects RX4 yX4_begin yX4_begin ∈ wsU := ut4 (List.mem_of_getElem? (i := 136) (by decide +kernel)) rfl
theorem uw228 : Cond.initialized RX4 ∈ wsU := ut1 (List.mem_of_getElem? (i := 9) (by decide +kernel)) rfl
theorem uw229 : Cond.code yX4_begin cX4_begin 4 none ∈ wsU := ut4 (List.mem_of_getElem? (i := 137) (by decide +kernel)) rfl
theorem uw230 : Cond.fieldLink RX8 293 "LongerBack$Sheet" "size" "I" ∈ wsU := ut1 (List.mem_of_getElem? (i := 198) (by decide +kernel)) rfl
theorem uw231 : Cond.constant RX8 288 (-1000000007) ∈ wsU := ut4 (List.mem_of_getElem? (i := 133) (by decide +kernel)) rfl
theorem uw232 : Cond.methodLink RX8 294 yX4_isMissing ∈ wsU := ut4 (List.mem_of_getElem? (i := 142) (by decide +kernel)) rfl
theorem uw233 : Cond.instanceMethod yX4_isMissing ∈ wsU := ut4 (List.mem_of_getElem? (i := 143) (by decide +kernel)) rfl
theorem uw234 : Cond.selects RX4 yX4_isMissing yX4_isMissing ∈ wsU := ut4 (List.mem_of_getElem? (i := 144) (by decide +kernel)) rfl
theorem uw235 : Cond.code yX4_isMissing cX4_isMissing 1 (some .boolean) ∈ wsU := ut4 (List.mem_of_getElem? (i := 145) (by decide +kernel)) rfl
theorem uw236 : Cond.constant RX8 297 (-1000000006) ∈ wsU := ut4 (List.mem_of_getElem? (i := 146) (by decide +kernel)) rfl
theorem uw237 : Cond.fieldLink RX8 326 "LongerBack$Rows" "count" "I" ∈ wsU := ut1 (List.mem_of_getElem? (i := 39) (by decide +kernel)) rfl
theorem uw238 : Cond.methodLink RX8 329 yX1_allErrands ∈ wsU := ut4 (List.mem_of_getElem? (i := 194) (by decide +kernel)) rfl
theorem uw239 : Cond.instanceMethod yX1_allErrands ∈ wsU := ut4 (List.mem_of_getElem? (i := 195) (by decide +kernel)) rfl
theorem uw240 : Cond.selects RX1 yX1_allErrands yX1_allErrands ∈ wsU := ut4 (List.mem_of_getElem? (i := 196) (by decide +kernel)) rfl
theorem uw241 : Cond.code yX1_allErrands cX1_allErrands 3 (some .int) ∈ wsU := ut4 (List.mem_of_getElem? (i := 197) (by decide +kernel)) rfl
theorem uw242 : Cond.methodLink RX3 3 objectInit ∈ wsU := ut1 (List.mem_of_getElem? (i := 36) (by decide +kernel)) rfl
theorem uw243 : Cond.instanceMethod objectInit ∈ wsU := ut1 (List.mem_of_getElem? (i := 23) (by decide +kernel)) rfl
theorem uw244 : Cond.code objectInit ⟨#[0xb1]⟩ 1 none ∈ wsU := ut1 (List.mem_of_getElem? (i := 24) (by decide +kernel)) rfl
theorem uw245 : Cond.arrayClass .int ∈ wsU := ut1 (List.mem_of_getElem? (i := 53) (by decide +kernel)) rfl
theorem uw246 : Cond.methodLink RX4 3 objectInit ∈ wsU := ut1 (List.mem_of_getElem? (i := 194) (by decide +kernel)) rfl
theorem uw247 : Cond.arrayClass .long ∈ wsU := ut1 (List.mem_of_getElem? (i := 208) (by decide +kernel)) rfl
theorem uw248 : Cond.methodLink RX1 3 objectInit ∈ wsU := ut1 (List.mem_of_getElem? (i := 30) (by decide +kernel)) rfl
theorem uw249 : Cond.classLink RX1 28 RX3 ∈ wsU := ut1 (List.mem_of_getElem? (i := 31) (by decide +kernel)) rfl
theorem uw250 : Cond.instantiable RX3 3 ∈ wsU := ut1 (List.mem_of_getElem? (i := 32) (by decide +kernel)) rfl
theorem uw251 : Cond.instanceMethod yX3_init ∈ wsU := ut1 (List.mem_of_getElem? (i := 34) (by decide +kernel)) rfl
theorem uw252 : Cond.initialized yX3_init.cls ∈ wsU := ut1 (List.mem_of_getElem? (i := 3) (by decide +kernel)) rfl
theorem uw253 : Cond.code yX3_init cX3_init 1 none ∈ wsU := ut1 (List.mem_of_getElem? (i := 35) (by decide +kernel)) rfl
theorem uw254 : Cond.methodLink RX0 3 objectInit ∈ wsU := ut1 (List.mem_of_getElem? (i := 109) (by decide +kernel)) rfl
theorem uw255 : Cond.fieldLink RX0 15 "LongerBack$Atlas" "lengths" "[I" ∈ wsU := ut1 (List.mem_of_getElem? (i := 111) (by decide +kernel)) rfl
theorem uw256 : Cond.methodLink RX6 3 objectInit ∈ wsU := ut1 (List.mem_of_getElem? (i := 122) (by decide +kernel)) rfl
theorem uw257 : Cond.fieldLink RX6 9 "LongerBack$Sums" "least" "[I" ∈ wsU := ut1 (List.mem_of_getElem? (i := 123) (by decide +kernel)) rfl
theorem uw258 : Cond.laysFinal RX6 "LongerBack$Sums" "least" "[I" ∈ wsU := ut1 (List.mem_of_getElem? (i := 124) (by decide +kernel)) rfl
theorem uw259 : Cond.methodLink RX5 3 objectInit ∈ wsU := ut1 (List.mem_of_getElem? (i := 132) (by decide +kernel)) rfl
theorem uw260 : Cond.fieldLink RX5 9 "LongerBack$Slopes" "heights" "[I" ∈ wsU := ut1 (List.mem_of_getElem? (i := 133) (by decide +kernel)) rfl
theorem uw261 : Cond.laysFinal RX5 "LongerBack$Slopes" "heights" "[I" ∈ wsU := ut1 (List.mem_of_getElem? (i := 137) (by decide +kernel)) rfl
theorem uw262 : Cond.laysFinal RX5 "LongerBack$Slopes" "isClimbed" "[Z" ∈ wsU := ut1 (List.mem_of_getElem? (i := 139) (by decide +kernel)) rfl
theorem uw263 : Cond.laysFinal RX5 "LongerBack$Slopes" "queue" "[I" ∈ wsU := ut1 (List.mem_of_getElem? (i := 141) (by decide +kernel)) rfl
theorem uw264 : Cond.arrayClass .boolean ∈ wsU := ut1 (List.mem_of_getElem? (i := 144) (by decide +kernel)) rfl
theorem uw265 : Cond.fieldLink RX5 15 "LongerBack$Slopes" "isClimbed" "[Z" ∈ wsU := ut1 (List.mem_of_getElem? (i := 135) (by decide +kernel)) rfl
theorem uw266 : Cond.fieldLink RX5 19 "LongerBack$Slopes" "queue" "[I" ∈ wsU := ut1 (List.mem_of_getElem? (i := 136) (by decide +kernel)) rfl
theorem uw267 : Cond.methodLink RX2 1 objectInit ∈ wsU := ut1 (List.mem_of_getElem? (i := 150) (by decide +kernel)) rfl
theorem uw268 : Cond.methodLink RX7 3 objectInit ∈ wsU := ut1 (List.mem_of_getElem? (i := 164) (by decide +kernel)) rfl
theorem uw269 : Cond.fieldLink RX7 31 "LongerBack$Text" "taken" "I" ∈ wsU := ut1 (List.mem_of_getElem? (i := 172) (by decide +kernel)) rfl
theorem uw270 : Cond.methodLink RX8 3 objectInit ∈ wsU := ut1 (List.mem_of_getElem? (i := 22) (by decide +kernel)) rfl
theorem uw271 : Cond.classLink RX8 9 RX1 ∈ wsU := ut1 (List.mem_of_getElem? (i := 25) (by decide +kernel)) rfl
theorem uw272 : Cond.instantiable RX1 10 ∈ wsU := ut1 (List.mem_of_getElem? (i := 26) (by decide +kernel)) rfl
theorem uw273 : Cond.instanceMethod yX1_init ∈ wsU := ut1 (List.mem_of_getElem? (i := 28) (by decide +kernel)) rfl
theorem uw274 : Cond.initialized yX1_init.cls ∈ wsU := ut1 (List.mem_of_getElem? (i := 2) (by decide +kernel)) rfl
theorem uw275 : Cond.code yX1_init cX1_init 1 none ∈ wsU := ut1 (List.mem_of_getElem? (i := 29) (by decide +kernel)) rfl
theorem uw276 : Cond.classLink RX8 26 RX0 ∈ wsU := ut1 (List.mem_of_getElem? (i := 104) (by decide +kernel)) rfl
theorem uw277 : Cond.instantiable RX0 2 ∈ wsU := ut1 (List.mem_of_getElem? (i := 105) (by decide +kernel)) rfl
theorem uw278 : Cond.instanceMethod yX0_init ∈ wsU := ut1 (List.mem_of_getElem? (i := 107) (by decide +kernel)) rfl
theorem uw279 : Cond.initialized yX0_init.cls ∈ wsU := ut1 (List.mem_of_getElem? (i := 4) (by decide +kernel)) rfl
theorem uw280 : Cond.code yX0_init cX0_init 1 none ∈ wsU := ut1 (List.mem_of_getElem? (i := 108) (by decide +kernel)) rfl
theorem uw281 : Cond.fieldLink RX8 33 "LongerBack" "mended" "LLongerBack$Atlas;" ∈ wsU := ut1 (List.mem_of_getElem? (i := 214) (by decide +kernel)) rfl
theorem uw282 : Cond.classLink RX8 36 RX6 ∈ wsU := ut1 (List.mem_of_getElem? (i := 117) (by decide +kernel)) rfl
theorem uw283 : Cond.instantiable RX6 1 ∈ wsU := ut1 (List.mem_of_getElem? (i := 118) (by decide +kernel)) rfl
theorem uw284 : Cond.initialized RX6 ∈ wsU := ut1 (List.mem_of_getElem? (i := 5) (by decide +kernel)) rfl
theorem uw285 : Cond.instanceMethod yX6_init ∈ wsU := ut1 (List.mem_of_getElem? (i := 120) (by decide +kernel)) rfl
theorem uw286 : Cond.initialized yX6_init.cls ∈ wsU := ut1 (List.mem_of_getElem? (i := 5) (by decide +kernel)) rfl
theorem uw287 : Cond.code yX6_init cX6_init 1 none ∈ wsU := ut1 (List.mem_of_getElem? (i := 121) (by decide +kernel)) rfl
theorem uw288 : Cond.fieldLink RX8 39 "LongerBack" "sums" "LLongerBack$Sums;" ∈ wsU := ut1 (List.mem_of_getElem? (i := 215) (by decide +kernel)) rfl
theorem uw289 : Cond.classLink RX8 43 RX5 ∈ wsU := ut1 (List.mem_of_getElem? (i := 127) (by decide +kernel)) rfl
theorem uw290 : Cond.instantiable RX5 3 ∈ wsU := ut1 (List.mem_of_getElem? (i := 128) (by decide +kernel)) rfl
theorem uw291 : Cond.instanceMethod yX5_init ∈ wsU := ut1 (List.mem_of_getElem? (i := 130) (by decide +kernel)) rfl
theorem uw292 : Cond.initialized yX5_init.cls ∈ wsU := ut1 (List.mem_of_getElem? (i := 6) (by decide +kernel)) rfl
theorem uw293 : Cond.code yX5_init cX5_init 1 none ∈ wsU := ut1 (List.mem_of_getElem? (i := 131) (by decide +kernel)) rfl
theorem uw294 : Cond.classLink RX8 50 RX2 ∈ wsU := ut1 (List.mem_of_getElem? (i := 145) (by decide +kernel)) rfl
theorem uw295 : Cond.instantiable RX2 2 ∈ wsU := ut1 (List.mem_of_getElem? (i := 146) (by decide +kernel)) rfl
theorem uw296 : Cond.instanceMethod yX2_init ∈ wsU := ut1 (List.mem_of_getElem? (i := 148) (by decide +kernel)) rfl
theorem uw297 : Cond.initialized yX2_init.cls ∈ wsU := ut1 (List.mem_of_getElem? (i := 7) (by decide +kernel)) rfl
theorem uw298 : Cond.code yX2_init cX2_init 1 none ∈ wsU := ut1 (List.mem_of_getElem? (i := 149) (by decide +kernel)) rfl
theorem uw299 : Cond.classLink RX8 57 RX7 ∈ wsU := ut1 (List.mem_of_getElem? (i := 159) (by decide +kernel)) rfl
theorem uw300 : Cond.instantiable RX7 7 ∈ wsU := ut1 (List.mem_of_getElem? (i := 160) (by decide +kernel)) rfl
theorem uw301 : Cond.instanceMethod yX7_init ∈ wsU := ut1 (List.mem_of_getElem? (i := 162) (by decide +kernel)) rfl
theorem uw302 : Cond.initialized yX7_init.cls ∈ wsU := ut1 (List.mem_of_getElem? (i := 8) (by decide +kernel)) rfl
theorem uw303 : Cond.code yX7_init cX7_init 1 none ∈ wsU := ut1 (List.mem_of_getElem? (i := 163) (by decide +kernel)) rfl
theorem uw304 : Cond.classLink RX8 64 RX4 ∈ wsU := ut1 (List.mem_of_getElem? (i := 188) (by decide +kernel)) rfl
theorem uw305 : Cond.instantiable RX4 3 ∈ wsU := ut1 (List.mem_of_getElem? (i := 190) (by decide +kernel)) rfl
theorem uw306 : Cond.instanceMethod yX4_init ∈ wsU := ut1 (List.mem_of_getElem? (i := 192) (by decide +kernel)) rfl
theorem uw307 : Cond.initialized yX4_init.cls ∈ wsU := ut1 (List.mem_of_getElem? (i := 9) (by decide +kernel)) rfl
theorem uw308 : Cond.code yX4_init cX4_init 1 none ∈ wsU := ut1 (List.mem_of_getElem? (i := 193) (by decide +kernel)) rfl
theorem uw309 : Cond.methodLink RX9 1 objectInit ∈ wsU := ut4 (List.mem_of_getElem? (i := 207) (by decide +kernel)) rfl
theorem uw310 : Cond.fieldLink RX9 7 "LongerBackModel" "s" "[I" ∈ wsU := ut4 (List.mem_of_getElem? (i := 208) (by decide +kernel)) rfl
theorem uw311 : Cond.laysFinal RX9 "LongerBackModel" "s" "[I" ∈ wsU := ut4 (List.mem_of_getElem? (i := 235) (by decide +kernel)) rfl
theorem uw312 : Cond.laysFinal RX9 "LongerBackModel" "keptS" "[I" ∈ wsU := ut4 (List.mem_of_getElem? (i := 237) (by decide +kernel)) rfl
theorem uw313 : Cond.laysFinal RX9 "LongerBackModel" "other" "[I" ∈ wsU := ut4 (List.mem_of_getElem? (i := 239) (by decide +kernel)) rfl
theorem uw314 : Cond.laysFinal RX9 "LongerBackModel" "statuses" "[I" ∈ wsU := ut5 (List.mem_of_getElem? (i := 1) (by decide +kernel)) rfl
theorem uw315 : Cond.lays RX9 "LongerBackModel" "isKept" "Z" ∈ wsU := ut5 (List.mem_of_getElem? (i := 3) (by decide +kernel)) rfl
theorem uw316 : Cond.laysFinal RX9 "LongerBackModel" "far" "[I" ∈ wsU := ut5 (List.mem_of_getElem? (i := 5) (by decide +kernel)) rfl
theorem uw317 : Cond.laysFinal RX9 "LongerBackModel" "few" "[I" ∈ wsU := ut5 (List.mem_of_getElem? (i := 7) (by decide +kernel)) rfl
theorem uw318 : Cond.lays RX9 "LongerBackModel" "isLooped" "Z" ∈ wsU := ut5 (List.mem_of_getElem? (i := 9) (by decide +kernel)) rfl
theorem uw319 : Cond.lays RX9 "LongerBackModel" "sumOf" "I" ∈ wsU := ut5 (List.mem_of_getElem? (i := 11) (by decide +kernel)) rfl
theorem uw320 : Cond.lays RX9 "LongerBackModel" "least" "I" ∈ wsU := ut5 (List.mem_of_getElem? (i := 13) (by decide +kernel)) rfl
theorem uw321 : Cond.laysFinal RX9 "LongerBackModel" "row" "[I" ∈ wsU := ut5 (List.mem_of_getElem? (i := 15) (by decide +kernel)) rfl
theorem uw322 : Cond.laysFinal RX9 "LongerBackModel" "height" "[I" ∈ wsU := ut5 (List.mem_of_getElem? (i := 17) (by decide +kernel)) rfl
theorem uw323 : Cond.laysFinal RX9 "LongerBackModel" "group" "[I" ∈ wsU := ut5 (List.mem_of_getElem? (i := 19) (by decide +kernel)) rfl
theorem uw324 : Cond.lays RX9 "LongerBackModel" "isFit" "Z" ∈ wsU := ut5 (List.mem_of_getElem? (i := 21) (by decide +kernel)) rfl
theorem uw325 : Cond.lays RX9 "LongerBackModel" "changes" "Z" ∈ wsU := ut5 (List.mem_of_getElem? (i := 23) (by decide +kernel)) rfl
theorem uw326 : Cond.lays RX9 "LongerBackModel" "lying" "I" ∈ wsU := ut5 (List.mem_of_getElem? (i := 25) (by decide +kernel)) rfl
theorem uw327 : Cond.laysFinal RX9 "LongerBackModel" "tape" "[I" ∈ wsU := ut5 (List.mem_of_getElem? (i := 27) (by decide +kernel)) rfl
theorem uw328 : Cond.lays RX9 "LongerBackModel" "taped" "I" ∈ wsU := ut5 (List.mem_of_getElem? (i := 29) (by decide +kernel)) rfl
theorem uw329 : Cond.lays RX9 "LongerBackModel" "from" "I" ∈ wsU := ut5 (List.mem_of_getElem? (i := 31) (by decide +kernel)) rfl
theorem uw330 : Cond.lays RX9 "LongerBackModel" "to" "I" ∈ wsU := ut5 (List.mem_of_getElem? (i := 33) (by decide +kernel)) rfl
theorem uw331 : Cond.lays RX9 "LongerBackModel" "value" "I" ∈ wsU := ut5 (List.mem_of_getElem? (i := 35) (by decide +kernel)) rfl
theorem uw332 : Cond.lays RX9 "LongerBackModel" "isWrong" "Z" ∈ wsU := ut5 (List.mem_of_getElem? (i := 37) (by decide +kernel)) rfl
theorem uw333 : Cond.laysFinal RX9 "LongerBackModel" "walked" "[I" ∈ wsU := ut5 (List.mem_of_getElem? (i := 39) (by decide +kernel)) rfl
theorem uw334 : Cond.laysFinal RX9 "LongerBackModel" "bitsOf" "[I" ∈ wsU := ut5 (List.mem_of_getElem? (i := 41) (by decide +kernel)) rfl
theorem uw335 : Cond.laysFinal RX9 "LongerBackModel" "sizeOf" "[I" ∈ wsU := ut5 (List.mem_of_getElem? (i := 43) (by decide +kernel)) rfl
theorem uw336 : Cond.laysFinal RX9 "LongerBackModel" "number" "[J" ∈ wsU := ut5 (List.mem_of_getElem? (i := 45) (by decide +kernel)) rfl
theorem uw337 : Cond.laysFinal RX9 "LongerBackModel" "moved" "[J" ∈ wsU := ut5 (List.mem_of_getElem? (i := 47) (by decide +kernel)) rfl
theorem uw338 : Cond.fieldLink RX9 13 "LongerBackModel" "keptS" "[I" ∈ wsU := ut4 (List.mem_of_getElem? (i := 209) (by decide +kernel)) rfl
theorem uw339 : Cond.fieldLink RX9 16 "LongerBackModel" "other" "[I" ∈ wsU := ut4 (List.mem_of_getElem? (i := 210) (by decide +kernel)) rfl
theorem uw340 : Cond.fieldLink RX9 19 "LongerBackModel" "statuses" "[I" ∈ wsU := ut4 (List.mem_of_getElem? (i := 211) (by decide +kernel)) rfl
theorem uw341 : Cond.fieldLink RX9 22 "LongerBackModel" "far" "[I" ∈ wsU := ut4 (List.mem_of_getElem? (i := 213) (by decide +kernel)) rfl
theorem uw342 : Cond.fieldLink RX9 25 "LongerBackModel" "few" "[I" ∈ wsU := ut4 (List.mem_of_getElem? (i := 214) (by decide +kernel)) rfl
theorem uw343 : Cond.fieldLink RX9 28 "LongerBackModel" "row" "[I" ∈ wsU := ut4 (List.mem_of_getElem? (i := 218) (by decide +kernel)) rfl
theorem uw344 : Cond.fieldLink RX9 31 "LongerBackModel" "height" "[I" ∈ wsU := ut4 (List.mem_of_getElem? (i := 219) (by decide +kernel)) rfl
theorem uw345 : Cond.fieldLink RX9 34 "LongerBackModel" "group" "[I" ∈ wsU := ut4 (List.mem_of_getElem? (i := 220) (by decide +kernel)) rfl
theorem uw346 : Cond.fieldLink RX9 37 "LongerBackModel" "tape" "[I" ∈ wsU := ut4 (List.mem_of_getElem? (i := 224) (by decide +kernel)) rfl
theorem uw347 : Cond.fieldLink RX9 40 "LongerBackModel" "walked" "[I" ∈ wsU := ut4 (List.mem_of_getElem? (i := 230) (by decide +kernel)) rfl
theorem uw348 : Cond.fieldLink RX9 43 "LongerBackModel" "bitsOf" "[I" ∈ wsU := ut4 (List.mem_of_getElem? (i := 231) (by decide +kernel)) rfl
theorem uw349 : Cond.fieldLink RX9 46 "LongerBackModel" "sizeOf" "[I" ∈ wsU := ut4 (List.mem_of_getElem? (i := 232) (by decide +kernel)) rfl
theorem uw350 : Cond.fieldLink RX9 49 "LongerBackModel" "number" "[J" ∈ wsU := ut4 (List.mem_of_getElem? (i := 233) (by decide +kernel)) rfl
theorem uw351 : Cond.fieldLink RX9 53 "LongerBackModel" "moved" "[J" ∈ wsU := ut4 (List.mem_of_getElem? (i := 234) (by decide +kernel)) rfl
theorem uw352 : Cond.constant RX9 56 (-1000000001) ∈ wsU := ut5 (List.mem_of_getElem? (i := 59) (by decide +kernel)) rfl
theorem uw353 : Cond.methodLink RX9 57 yX9_in ∈ wsU := ut5 (List.mem_of_getElem? (i := 72) (by decide +kernel)) rfl
theorem uw354 : Cond.static yX9_in ∈ wsU := ut5 (List.mem_of_getElem? (i := 73) (by decide +kernel)) rfl
theorem uw355 : Cond.initialized yX9_in.cls ∈ wsU := ut1 (List.mem_of_getElem? (i := 10) (by decide +kernel)) rfl
theorem uw356 : Cond.code yX9_in cX9_in 6 (some .boolean) ∈ wsU := ut5 (List.mem_of_getElem? (i := 74) (by decide +kernel)) rfl
theorem uw357 : Cond.methodLink RX9 61 yX9_isPlace ∈ wsU := ut5 (List.mem_of_getElem? (i := 68) (by decide +kernel)) rfl
theorem uw358 : Cond.instanceMethod yX9_isPlace ∈ wsU := ut5 (List.mem_of_getElem? (i := 70) (by decide +kernel)) rfl
theorem uw359 : Cond.selects RX9 yX9_isPlace yX9_isPlace ∈ wsU := us_sel (q := (yX9_isPlace, 27)) (List.mem_of_getElem? (i := 31) (by decide +kernel)) rfl
theorem uw360 : Cond.initialized RX9 ∈ wsU := ut1 (List.mem_of_getElem? (i := 10) (by decide +kernel)) rfl
theorem uw361 : Cond.code yX9_isPlace cX9_isPlace 2 (some .boolean) ∈ wsU := ut5 (List.mem_of_getElem? (i := 71) (by decide +kernel)) rfl
theorem uw362 : Cond.constantLong RX9 303 3 ∈ wsU := ut6 (List.mem_of_getElem? (i := 183) (by decide +kernel)) rfl
theorem uw363 : Cond.methodLink RX9 305 yX9_isOne ∈ wsU := ut6 (List.mem_of_getElem? (i := 180) (by decide +kernel)) rfl
theorem uw364 : Cond.static yX9_isOne ∈ wsU := ut6 (List.mem_of_getElem? (i := 181) (by decide +kernel)) rfl
theorem uw365 : Cond.initialized yX9_isOne.cls ∈ wsU := ut1 (List.mem_of_getElem? (i := 10) (by decide +kernel)) rfl
theorem uw366 : Cond.code yX9_isOne cX9_isOne 1 (some .boolean) ∈ wsU := ut6 (List.mem_of_getElem? (i := 182) (by decide +kernel)) rfl
theorem uw367 : Cond.constant RX9 309 (-1000000006) ∈ wsU := ut6 (List.mem_of_getElem? (i := 193) (by decide +kernel)) rfl
theorem uw368 : Cond.fieldLink RX9 109 "LongerBackModel" "isLooped" "Z" ∈ wsU := ut4 (List.mem_of_getElem? (i := 215) (by decide +kernel)) rfl
theorem uw369 : Cond.fieldLink RX9 180 "LongerBackModel" "isFit" "Z" ∈ wsU := ut4 (List.mem_of_getElem? (i := 221) (by decide +kernel)) rfl
theorem uw370 : Cond.constant RX9 104 100000000 ∈ wsU := ut5 (List.mem_of_getElem? (i := 123) (by decide +kernel)) rfl
theorem uw371 : Cond.methodLink RX9 171 yX9_home ∈ wsU := ut5 (List.mem_of_getElem? (i := 211) (by decide +kernel)) rfl
theorem uw372 : Cond.instanceMethod yX9_home ∈ wsU := ut5 (List.mem_of_getElem? (i := 213) (by decide +kernel)) rfl
theorem uw373 : Cond.selects RX9 yX9_home yX9_home ∈ wsU := us_sel (q := (yX9_home, 27)) (List.mem_of_getElem? (i := 49) (by decide +kernel)) rfl
theorem uw374 : Cond.code yX9_home cX9_home 5 (some .int) ∈ wsU := ut5 (List.mem_of_getElem? (i := 214) (by decide +kernel)) rfl
theorem uw375 : Cond.fieldLink RX9 208 "LongerBackModel" "lying" "I" ∈ wsU := ut4 (List.mem_of_getElem? (i := 223) (by decide +kernel)) rfl
theorem uw376 : Cond.fieldLink RX9 205 "LongerBackModel" "changes" "Z" ∈ wsU := ut4 (List.mem_of_getElem? (i := 222) (by decide +kernel)) rfl
theorem uw377 : Cond.fieldLink RX9 240 "LongerBackModel" "taped" "I" ∈ wsU := ut4 (List.mem_of_getElem? (i := 225) (by decide +kernel)) rfl
theorem uw378 : Cond.constantLong RX9 243 97 ∈ wsU := ut6 (List.mem_of_getElem? (i := 133) (by decide +kernel)) rfl
theorem uw379 : Cond.constantLong RX9 245 122 ∈ wsU := ut6 (List.mem_of_getElem? (i := 134) (by decide +kernel)) rfl
theorem uw380 : Cond.constantLong RX9 247 48 ∈ wsU := ut6 (List.mem_of_getElem? (i := 138) (by decide +kernel)) rfl
theorem uw381 : Cond.constantLong RX9 249 57 ∈ wsU := ut6 (List.mem_of_getElem? (i := 139) (by decide +kernel)) rfl
theorem uw382 : Cond.fieldLink RX9 251 "LongerBackModel" "to" "I" ∈ wsU := ut4 (List.mem_of_getElem? (i := 227) (by decide +kernel)) rfl
theorem uw383 : Cond.fieldLink RX9 254 "LongerBackModel" "from" "I" ∈ wsU := ut4 (List.mem_of_getElem? (i := 226) (by decide +kernel)) rfl
theorem uw384 : Cond.methodLink RX9 257 yX9_byteAt ∈ wsU := ut6 (List.mem_of_getElem? (i := 126) (by decide +kernel)) rfl
theorem uw385 : Cond.instanceMethod yX9_byteAt ∈ wsU := ut6 (List.mem_of_getElem? (i := 128) (by decide +kernel)) rfl
theorem uw386 : Cond.selects RX9 yX9_byteAt yX9_byteAt ∈ wsU := us_sel (q := (yX9_byteAt, 27)) (List.mem_of_getElem? (i := 67) (by decide +kernel)) rfl
theorem uw387 : Cond.code yX9_byteAt cX9_byteAt 2 (some .int) ∈ wsU := ut6 (List.mem_of_getElem? (i := 129) (by decide +kernel)) rfl
theorem uw388 : Cond.methodLink RX9 260 yX9_isLetter ∈ wsU := ut6 (List.mem_of_getElem? (i := 130) (by decide +kernel)) rfl
theorem uw389 : Cond.static yX9_isLetter ∈ wsU := ut6 (List.mem_of_getElem? (i := 131) (by decide +kernel)) rfl
theorem uw390 : Cond.initialized yX9_isLetter.cls ∈ wsU := ut1 (List.mem_of_getElem? (i := 10) (by decide +kernel)) rfl
theorem uw391 : Cond.code yX9_isLetter cX9_isLetter 1 (some .boolean) ∈ wsU := ut6 (List.mem_of_getElem? (i := 132) (by decide +kernel)) rfl
theorem uw392 : Cond.methodLink RX9 263 yX9_isDigit ∈ wsU := ut6 (List.mem_of_getElem? (i := 135) (by decide +kernel)) rfl
theorem uw393 : Cond.static yX9_isDigit ∈ wsU := ut6 (List.mem_of_getElem? (i := 136) (by decide +kernel)) rfl
theorem uw394 : Cond.initialized yX9_isDigit.cls ∈ wsU := ut1 (List.mem_of_getElem? (i := 10) (by decide +kernel)) rfl
theorem uw395 : Cond.code yX9_isDigit cX9_isDigit 1 (some .boolean) ∈ wsU := ut6 (List.mem_of_getElem? (i := 137) (by decide +kernel)) rfl
theorem uw396 : Cond.fieldLink RX9 266 "LongerBackModel" "isWrong" "Z" ∈ wsU := ut4 (List.mem_of_getElem? (i := 229) (by decide +kernel)) rfl
theorem uw397 : Cond.methodLink RX9 290 yX9_isWord ∈ wsU := ut6 (List.mem_of_getElem? (i := 144) (by decide +kernel)) rfl
theorem uw398 : Cond.instanceMethod yX9_isWord ∈ wsU := ut6 (List.mem_of_getElem? (i := 146) (by decide +kernel)) rfl
theorem uw399 : Cond.selects RX9 yX9_isWord yX9_isWord ∈ wsU := us_sel (q := (yX9_isWord, 27)) (List.mem_of_getElem? (i := 69) (by decide +kernel)) rfl
theorem uw400 : Cond.code yX9_isWord cX9_isWord 9 (some .boolean) ∈ wsU := ut6 (List.mem_of_getElem? (i := 147) (by decide +kernel)) rfl
theorem uw401 : Cond.methodLink RX9 278 yX9_needs ∈ wsU := ut6 (List.mem_of_getElem? (i := 156) (by decide +kernel)) rfl
theorem uw402 : Cond.instanceMethod yX9_needs ∈ wsU := ut6 (List.mem_of_getElem? (i := 158) (by decide +kernel)) rfl
theorem uw403 : Cond.selects RX9 yX9_needs yX9_needs ∈ wsU := us_sel (q := (yX9_needs, 27)) (List.mem_of_getElem? (i := 72) (by decide +kernel)) rfl
theorem uw404 : Cond.code yX9_needs cX9_needs 2 none ∈ wsU := ut6 (List.mem_of_getElem? (i := 159) (by decide +kernel)) rfl
theorem uw405 : Cond.methodLink RX9 74 yX9_newPlace ∈ wsU := ut5 (List.mem_of_getElem? (i := 60) (by decide +kernel)) rfl
theorem uw406 : Cond.instanceMethod yX9_newPlace ∈ wsU := ut5 (List.mem_of_getElem? (i := 62) (by decide +kernel)) rfl
theorem uw407 : Cond.selects RX9 yX9_newPlace yX9_newPlace ∈ wsU := us_sel (q := (yX9_newPlace, 27)) (List.mem_of_getElem? (i := 30) (by decide +kernel)) rfl
theorem uw408 : Cond.code yX9_newPlace cX9_newPlace 1 (some .int) ∈ wsU := ut5 (List.mem_of_getElem? (i := 63) (by decide +kernel)) rfl
theorem uw409 : Cond.methodLink RX9 70 yX9_finds ∈ wsU := ut5 (List.mem_of_getElem? (i := 55) (by decide +kernel)) rfl
theorem uw410 : Cond.instanceMethod yX9_finds ∈ wsU := ut5 (List.mem_of_getElem? (i := 57) (by decide +kernel)) rfl
theorem uw411 : Cond.selects RX9 yX9_finds yX9_finds ∈ wsU := us_sel (q := (yX9_finds, 27)) (List.mem_of_getElem? (i := 29) (by decide +kernel)) rfl
theorem uw412 : Cond.code yX9_finds cX9_finds 2 (some .int) ∈ wsU := ut5 (List.mem_of_getElem? (i := 58) (by decide +kernel)) rfl
theorem uw413 : Cond.methodLink RX9 80 yX9_areTwo ∈ wsU := ut5 (List.mem_of_getElem? (i := 80) (by decide +kernel)) rfl
theorem uw414 : Cond.instanceMethod yX9_areTwo ∈ wsU := ut5 (List.mem_of_getElem? (i := 82) (by decide +kernel)) rfl
theorem uw415 : Cond.selects RX9 yX9_areTwo yX9_areTwo ∈ wsU := us_sel (q := (yX9_areTwo, 27)) (List.mem_of_getElem? (i := 32) (by decide +kernel)) rfl
theorem uw416 : Cond.code yX9_areTwo cX9_areTwo 3 (some .boolean) ∈ wsU := ut5 (List.mem_of_getElem? (i := 83) (by decide +kernel)) rfl
theorem uw417 : Cond.constantLong RX9 121 6 ∈ wsU := ut5 (List.mem_of_getElem? (i := 147) (by decide +kernel)) rfl
theorem uw418 : Cond.methodLink RX9 123 yX9_isRound ∈ wsU := ut5 (List.mem_of_getElem? (i := 152) (by decide +kernel)) rfl
theorem uw419 : Cond.instanceMethod yX9_isRound ∈ wsU := ut5 (List.mem_of_getElem? (i := 154) (by decide +kernel)) rfl
theorem uw420 : Cond.selects RX9 yX9_isRound yX9_isRound ∈ wsU := us_sel (q := (yX9_isRound, 27)) (List.mem_of_getElem? (i := 39) (by decide +kernel)) rfl
theorem uw421 : Cond.code yX9_isRound cX9_isRound 2 (some .boolean) ∈ wsU := ut5 (List.mem_of_getElem? (i := 155) (by decide +kernel)) rfl
theorem uw422 : Cond.methodLink RX9 113 yX9_findFar ∈ wsU := ut5 (List.mem_of_getElem? (i := 111) (by decide +kernel)) rfl
theorem uw423 : Cond.instanceMethod yX9_findFar ∈ wsU := ut5 (List.mem_of_getElem? (i := 113) (by decide +kernel)) rfl
theorem uw424 : Cond.selects RX9 yX9_findFar yX9_findFar ∈ wsU := us_sel (q := (yX9_findFar, 27)) (List.mem_of_getElem? (i := 35) (by decide +kernel)) rfl
theorem uw425 : Cond.code yX9_findFar cX9_findFar 5 none ∈ wsU := ut5 (List.mem_of_getElem? (i := 114) (by decide +kernel)) rfl
theorem uw426 : Cond.constant RX9 96 (-1000000004) ∈ wsU := ut5 (List.mem_of_getElem? (i := 102) (by decide +kernel)) rfl
theorem uw427 : Cond.methodLink RX9 186 yX9_findHeights ∈ wsU := ut5 (List.mem_of_getElem? (i := 235) (by decide +kernel)) rfl
theorem uw428 : Cond.instanceMethod yX9_findHeights ∈ wsU := ut5 (List.mem_of_getElem? (i := 237) (by decide +kernel)) rfl
theorem uw429 : Cond.selects RX9 yX9_findHeights yX9_findHeights ∈ wsU := us_sel (q := (yX9_findHeights, 27)) (List.mem_of_getElem? (i := 52) (by decide +kernel)) rfl
theorem uw430 : Cond.code yX9_findHeights cX9_findHeights 4 none ∈ wsU := ut5 (List.mem_of_getElem? (i := 238) (by decide +kernel)) rfl
theorem uw431 : Cond.methodLink RX9 214 yX9_learning ∈ wsU := ut6 (List.mem_of_getElem? (i := 40) (by decide +kernel)) rfl
theorem uw432 : Cond.instanceMethod yX9_learning ∈ wsU := ut6 (List.mem_of_getElem? (i := 42) (by decide +kernel)) rfl
theorem uw433 : Cond.selects RX9 yX9_learning yX9_learning ∈ wsU := us_sel (q := (yX9_learning, 27)) (List.mem_of_getElem? (i := 56) (by decide +kernel)) rfl
theorem uw434 : Cond.code yX9_learning cX9_learning 4 (some .int) ∈ wsU := ut6 (List.mem_of_getElem? (i := 43) (by decide +kernel)) rfl
theorem uw435 : Cond.methodLink RX9 217 yX9_puts ∈ wsU := ut6 (List.mem_of_getElem? (i := 60) (by decide +kernel)) rfl
theorem uw436 : Cond.instanceMethod yX9_puts ∈ wsU := ut6 (List.mem_of_getElem? (i := 62) (by decide +kernel)) rfl
theorem uw437 : Cond.selects RX9 yX9_puts yX9_puts ∈ wsU := us_sel (q := (yX9_puts, 27)) (List.mem_of_getElem? (i := 60) (by decide +kernel)) rfl
theorem uw438 : Cond.code yX9_puts cX9_puts 2 none ∈ wsU := ut6 (List.mem_of_getElem? (i := 63) (by decide +kernel)) rfl
theorem uw439 : Cond.methodLink RX9 220 yX9_putsBack ∈ wsU := ut6 (List.mem_of_getElem? (i := 64) (by decide +kernel)) rfl
theorem uw440 : Cond.instanceMethod yX9_putsBack ∈ wsU := ut6 (List.mem_of_getElem? (i := 66) (by decide +kernel)) rfl
theorem uw441 : Cond.selects RX9 yX9_putsBack yX9_putsBack ∈ wsU := us_sel (q := (yX9_putsBack, 27)) (List.mem_of_getElem? (i := 61) (by decide +kernel)) rfl
theorem uw442 : Cond.code yX9_putsBack cX9_putsBack 2 none ∈ wsU := ut6 (List.mem_of_getElem? (i := 67) (by decide +kernel)) rfl
theorem uw443 : Cond.methodLink RX9 223 yX9_between ∈ wsU := ut6 (List.mem_of_getElem? (i := 72) (by decide +kernel)) rfl
theorem uw444 : Cond.instanceMethod yX9_between ∈ wsU := ut6 (List.mem_of_getElem? (i := 74) (by decide +kernel)) rfl
theorem uw445 : Cond.selects RX9 yX9_between yX9_between ∈ wsU := us_sel (q := (yX9_between, 27)) (List.mem_of_getElem? (i := 62) (by decide +kernel)) rfl
theorem uw446 : Cond.code yX9_between cX9_between 2 (some .int) ∈ wsU := ut6 (List.mem_of_getElem? (i := 75) (by decide +kernel)) rfl
theorem uw447 : Cond.methodLink RX9 226 yX9_tripOfHome ∈ wsU := ut6 (List.mem_of_getElem? (i := 84) (by decide +kernel)) rfl
theorem uw448 : Cond.instanceMethod yX9_tripOfHome ∈ wsU := ut6 (List.mem_of_getElem? (i := 86) (by decide +kernel)) rfl
theorem uw449 : Cond.selects RX9 yX9_tripOfHome yX9_tripOfHome ∈ wsU := us_sel (q := (yX9_tripOfHome, 27)) (List.mem_of_getElem? (i := 63) (by decide +kernel)) rfl
theorem uw450 : Cond.code yX9_tripOfHome cX9_tripOfHome 2 (some .int) ∈ wsU := ut6 (List.mem_of_getElem? (i := 87) (by decide +kernel)) rfl
theorem uw451 : Cond.methodLink RX9 269 yX9_next ∈ wsU := ut6 (List.mem_of_getElem? (i := 122) (by decide +kernel)) rfl
theorem uw452 : Cond.instanceMethod yX9_next ∈ wsU := ut6 (List.mem_of_getElem? (i := 124) (by decide +kernel)) rfl
theorem uw453 : Cond.selects RX9 yX9_next yX9_next ∈ wsU := us_sel (q := (yX9_next, 27)) (List.mem_of_getElem? (i := 66) (by decide +kernel)) rfl
theorem uw454 : Cond.code yX9_next cX9_next 3 none ∈ wsU := ut6 (List.mem_of_getElem? (i := 125) (by decide +kernel)) rfl
theorem uw455 : Cond.methodLink RX9 300 yX9_item ∈ wsU := ut6 (List.mem_of_getElem? (i := 140) (by decide +kernel)) rfl
theorem uw456 : Cond.instanceMethod yX9_item ∈ wsU := ut6 (List.mem_of_getElem? (i := 142) (by decide +kernel)) rfl
theorem uw457 : Cond.selects RX9 yX9_item yX9_item ∈ wsU := us_sel (q := (yX9_item, 27)) (List.mem_of_getElem? (i := 68) (by decide +kernel)) rfl
theorem uw458 : Cond.code yX9_item cX9_item 2 none ∈ wsU := ut6 (List.mem_of_getElem? (i := 143) (by decide +kernel)) rfl
theorem uw459 : Cond.fieldLink RX9 317 "LongerBackModel" "isKept" "Z" ∈ wsU := ut4 (List.mem_of_getElem? (i := 212) (by decide +kernel)) rfl
theorem uw460 : Cond.constantLong RX9 91 2 ∈ wsU := ut5 (List.mem_of_getElem? (i := 97) (by decide +kernel)) rfl
theorem uw461 : Cond.constantLong RX9 238 4 ∈ wsU := ut6 (List.mem_of_getElem? (i := 113) (by decide +kernel)) rfl
theorem uw462 : Cond.methodLink RX9 310 yX9_wrong ∈ wsU := ut6 (List.mem_of_getElem? (i := 189) (by decide +kernel)) rfl
theorem uw463 : Cond.instanceMethod yX9_wrong ∈ wsU := ut6 (List.mem_of_getElem? (i := 191) (by decide +kernel)) rfl
theorem uw464 : Cond.selects RX9 yX9_wrong yX9_wrong ∈ wsU := us_sel (q := (yX9_wrong, 27)) (List.mem_of_getElem? (i := 77) (by decide +kernel)) rfl
theorem uw465 : Cond.code yX9_wrong cX9_wrong 2 (some .int) ∈ wsU := ut6 (List.mem_of_getElem? (i := 192) (by decide +kernel)) rfl
theorem uw466 : Cond.constant RX9 308 (-1000000007) ∈ wsU := ut6 (List.mem_of_getElem? (i := 184) (by decide +kernel)) rfl
theorem uw467 : Cond.methodLink RX9 320 yX9_known ∈ wsU := ut6 (List.mem_of_getElem? (i := 225) (by decide +kernel)) rfl
theorem uw468 : Cond.instanceMethod yX9_known ∈ wsU := ut6 (List.mem_of_getElem? (i := 69) (by decide +kernel)) rfl
theorem uw469 : Cond.selects RX9 yX9_known yX9_known ∈ wsU := ut6 (List.mem_of_getElem? (i := 70) (by decide +kernel)) rfl
theorem uw470 : Cond.code yX9_known cX9_known 7 (some .int) ∈ wsU := ut6 (List.mem_of_getElem? (i := 71) (by decide +kernel)) rfl
theorem uw471 : Cond.constantLong RX9 117 (-1) ∈ wsU := ut5 (List.mem_of_getElem? (i := 133) (by decide +kernel)) rfl
theorem uw472 : Cond.methodLink RL 13 yX8_place ∈ wsU := ut2 (List.mem_of_getElem? (i := 6) (by decide +kernel)) rfl
theorem uw473 : Cond.instanceMethod yX8_place ∈ wsU := ut2 (List.mem_of_getElem? (i := 7) (by decide +kernel)) rfl
theorem uw474 : Cond.selects RX8 yX8_place yX8_place ∈ wsU := ut2 (List.mem_of_getElem? (i := 8) (by decide +kernel)) rfl
theorem uw475 : Cond.code yX8_place cX8_place 1 (some .int) ∈ wsU := ut2 (List.mem_of_getElem? (i := 9) (by decide +kernel)) rfl
theorem uw476 : Cond.methodLink RL 17 yX9_place ∈ wsU := ut5 (List.mem_of_getElem? (i := 50) (by decide +kernel)) rfl
theorem uw477 : Cond.instanceMethod yX9_place ∈ wsU := ut5 (List.mem_of_getElem? (i := 51) (by decide +kernel)) rfl
theorem uw478 : Cond.selects RX9 yX9_place yX9_place ∈ wsU := ut5 (List.mem_of_getElem? (i := 52) (by decide +kernel)) rfl
theorem uw479 : Cond.code yX9_place cX9_place 1 (some .int) ∈ wsU := ut5 (List.mem_of_getElem? (i := 53) (by decide +kernel)) rfl
theorem uw480 : Cond.methodLink RL 18 yX8_errands ∈ wsU := ut2 (List.mem_of_getElem? (i := 20) (by decide +kernel)) rfl
theorem uw481 : Cond.instanceMethod yX8_errands ∈ wsU := ut2 (List.mem_of_getElem? (i := 21) (by decide +kernel)) rfl
theorem uw482 : Cond.selects RX8 yX8_errands yX8_errands ∈ wsU := ut2 (List.mem_of_getElem? (i := 22) (by decide +kernel)) rfl
theorem uw483 : Cond.code yX8_errands cX8_errands 4 (some .int) ∈ wsU := ut2 (List.mem_of_getElem? (i := 23) (by decide +kernel)) rfl
theorem uw484 : Cond.methodLink RL 22 yX9_errands ∈ wsU := ut5 (List.mem_of_getElem? (i := 64) (by decide +kernel)) rfl
theorem uw485 : Cond.instanceMethod yX9_errands ∈ wsU := ut5 (List.mem_of_getElem? (i := 65) (by decide +kernel)) rfl
theorem uw486 : Cond.selects RX9 yX9_errands yX9_errands ∈ wsU := ut5 (List.mem_of_getElem? (i := 66) (by decide +kernel)) rfl
theorem uw487 : Cond.code yX9_errands cX9_errands 4 (some .int) ∈ wsU := ut5 (List.mem_of_getElem? (i := 67) (by decide +kernel)) rfl
theorem uw488 : Cond.methodLink RL 23 yX8_way ∈ wsU := ut2 (List.mem_of_getElem? (i := 31) (by decide +kernel)) rfl
theorem uw489 : Cond.instanceMethod yX8_way ∈ wsU := ut2 (List.mem_of_getElem? (i := 32) (by decide +kernel)) rfl
theorem uw490 : Cond.selects RX8 yX8_way yX8_way ∈ wsU := ut2 (List.mem_of_getElem? (i := 33) (by decide +kernel)) rfl
theorem uw491 : Cond.code yX8_way cX8_way 6 (some .int) ∈ wsU := ut2 (List.mem_of_getElem? (i := 34) (by decide +kernel)) rfl
theorem uw492 : Cond.methodLink RL 27 yX9_way ∈ wsU := ut5 (List.mem_of_getElem? (i := 76) (by decide +kernel)) rfl
theorem uw493 : Cond.instanceMethod yX9_way ∈ wsU := ut5 (List.mem_of_getElem? (i := 77) (by decide +kernel)) rfl
theorem uw494 : Cond.selects RX9 yX9_way yX9_way ∈ wsU := ut5 (List.mem_of_getElem? (i := 78) (by decide +kernel)) rfl
theorem uw495 : Cond.code yX9_way cX9_way 5 (some .int) ∈ wsU := ut5 (List.mem_of_getElem? (i := 79) (by decide +kernel)) rfl
theorem uw496 : Cond.methodLink RL 28 yX8_wayOf ∈ wsU := ut2 (List.mem_of_getElem? (i := 54) (by decide +kernel)) rfl
theorem uw497 : Cond.instanceMethod yX8_wayOf ∈ wsU := ut2 (List.mem_of_getElem? (i := 55) (by decide +kernel)) rfl
theorem uw498 : Cond.selects RX8 yX8_wayOf yX8_wayOf ∈ wsU := ut2 (List.mem_of_getElem? (i := 56) (by decide +kernel)) rfl
theorem uw499 : Cond.code yX8_wayOf cX8_wayOf 4 (some .int) ∈ wsU := ut2 (List.mem_of_getElem? (i := 57) (by decide +kernel)) rfl
theorem uw500 : Cond.methodLink RL 32 yX9_wayOf ∈ wsU := ut5 (List.mem_of_getElem? (i := 93) (by decide +kernel)) rfl
theorem uw501 : Cond.instanceMethod yX9_wayOf ∈ wsU := ut5 (List.mem_of_getElem? (i := 94) (by decide +kernel)) rfl
theorem uw502 : Cond.selects RX9 yX9_wayOf yX9_wayOf ∈ wsU := ut5 (List.mem_of_getElem? (i := 95) (by decide +kernel)) rfl
theorem uw503 : Cond.code yX9_wayOf cX9_wayOf 5 (some .int) ∈ wsU := ut5 (List.mem_of_getElem? (i := 96) (by decide +kernel)) rfl
theorem uw504 : Cond.methodLink RL 33 yX8_shut ∈ wsU := ut2 (List.mem_of_getElem? (i := 71) (by decide +kernel)) rfl
theorem uw505 : Cond.instanceMethod yX8_shut ∈ wsU := ut2 (List.mem_of_getElem? (i := 72) (by decide +kernel)) rfl
theorem uw506 : Cond.selects RX8 yX8_shut yX8_shut ∈ wsU := ut2 (List.mem_of_getElem? (i := 73) (by decide +kernel)) rfl
theorem uw507 : Cond.code yX8_shut cX8_shut 5 (some .int) ∈ wsU := ut2 (List.mem_of_getElem? (i := 74) (by decide +kernel)) rfl
theorem uw508 : Cond.methodLink RL 37 yX9_shut ∈ wsU := ut5 (List.mem_of_getElem? (i := 103) (by decide +kernel)) rfl
theorem uw509 : Cond.instanceMethod yX9_shut ∈ wsU := ut5 (List.mem_of_getElem? (i := 104) (by decide +kernel)) rfl
theorem uw510 : Cond.selects RX9 yX9_shut yX9_shut ∈ wsU := ut5 (List.mem_of_getElem? (i := 105) (by decide +kernel)) rfl
theorem uw511 : Cond.code yX9_shut cX9_shut 5 (some .int) ∈ wsU := ut5 (List.mem_of_getElem? (i := 106) (by decide +kernel)) rfl
theorem uw512 : Cond.methodLink RL 38 yX8_far ∈ wsU := ut2 (List.mem_of_getElem? (i := 79) (by decide +kernel)) rfl
theorem uw513 : Cond.instanceMethod yX8_far ∈ wsU := ut2 (List.mem_of_getElem? (i := 80) (by decide +kernel)) rfl
theorem uw514 : Cond.selects RX8 yX8_far yX8_far ∈ wsU := ut2 (List.mem_of_getElem? (i := 81) (by decide +kernel)) rfl
theorem uw515 : Cond.code yX8_far cX8_far 3 (some .int) ∈ wsU := ut2 (List.mem_of_getElem? (i := 82) (by decide +kernel)) rfl
theorem uw516 : Cond.methodLink RL 41 yX9_far ∈ wsU := ut5 (List.mem_of_getElem? (i := 107) (by decide +kernel)) rfl
theorem uw517 : Cond.instanceMethod yX9_far ∈ wsU := ut5 (List.mem_of_getElem? (i := 108) (by decide +kernel)) rfl
theorem uw518 : Cond.selects RX9 yX9_far yX9_far ∈ wsU := ut5 (List.mem_of_getElem? (i := 109) (by decide +kernel)) rfl
theorem uw519 : Cond.code yX9_far cX9_far 3 (some .int) ∈ wsU := ut5 (List.mem_of_getElem? (i := 110) (by decide +kernel)) rfl
theorem uw520 : Cond.methodLink RL 42 yX8_by ∈ wsU := ut2 (List.mem_of_getElem? (i := 129) (by decide +kernel)) rfl
theorem uw521 : Cond.instanceMethod yX8_by ∈ wsU := ut2 (List.mem_of_getElem? (i := 130) (by decide +kernel)) rfl
theorem uw522 : Cond.selects RX8 yX8_by yX8_by ∈ wsU := ut2 (List.mem_of_getElem? (i := 131) (by decide +kernel)) rfl
theorem uw523 : Cond.code yX8_by cX8_by 5 (some .int) ∈ wsU := ut2 (List.mem_of_getElem? (i := 132) (by decide +kernel)) rfl
theorem uw524 : Cond.methodLink RL 45 yX9_by ∈ wsU := ut5 (List.mem_of_getElem? (i := 129) (by decide +kernel)) rfl
theorem uw525 : Cond.instanceMethod yX9_by ∈ wsU := ut5 (List.mem_of_getElem? (i := 130) (by decide +kernel)) rfl
theorem uw526 : Cond.selects RX9 yX9_by yX9_by ∈ wsU := ut5 (List.mem_of_getElem? (i := 131) (by decide +kernel)) rfl
theorem uw527 : Cond.code yX9_by cX9_by 10 (some .int) ∈ wsU := ut5 (List.mem_of_getElem? (i := 132) (by decide +kernel)) rfl
theorem uw528 : Cond.methodLink RL 46 yX8_loops ∈ wsU := ut2 (List.mem_of_getElem? (i := 148) (by decide +kernel)) rfl
theorem uw529 : Cond.instanceMethod yX8_loops ∈ wsU := ut2 (List.mem_of_getElem? (i := 149) (by decide +kernel)) rfl
theorem uw530 : Cond.selects RX8 yX8_loops yX8_loops ∈ wsU := ut2 (List.mem_of_getElem? (i := 150) (by decide +kernel)) rfl
theorem uw531 : Cond.code yX8_loops cX8_loops 1 (some .int) ∈ wsU := ut2 (List.mem_of_getElem? (i := 151) (by decide +kernel)) rfl
theorem uw532 : Cond.methodLink RL 49 yX9_loops ∈ wsU := ut5 (List.mem_of_getElem? (i := 135) (by decide +kernel)) rfl
theorem uw533 : Cond.instanceMethod yX9_loops ∈ wsU := ut5 (List.mem_of_getElem? (i := 136) (by decide +kernel)) rfl
theorem uw534 : Cond.selects RX9 yX9_loops yX9_loops ∈ wsU := ut5 (List.mem_of_getElem? (i := 137) (by decide +kernel)) rfl
theorem uw535 : Cond.code yX9_loops cX9_loops 5 (some .int) ∈ wsU := ut5 (List.mem_of_getElem? (i := 138) (by decide +kernel)) rfl
theorem uw536 : Cond.methodLink RL 50 yX8_longer ∈ wsU := ut2 (List.mem_of_getElem? (i := 160) (by decide +kernel)) rfl
theorem uw537 : Cond.instanceMethod yX8_longer ∈ wsU := ut2 (List.mem_of_getElem? (i := 161) (by decide +kernel)) rfl
theorem uw538 : Cond.selects RX8 yX8_longer yX8_longer ∈ wsU := ut2 (List.mem_of_getElem? (i := 162) (by decide +kernel)) rfl
theorem uw539 : Cond.code yX8_longer cX8_longer 5 (some .int) ∈ wsU := ut2 (List.mem_of_getElem? (i := 163) (by decide +kernel)) rfl
theorem uw540 : Cond.methodLink RL 53 yX9_longer ∈ wsU := ut5 (List.mem_of_getElem? (i := 139) (by decide +kernel)) rfl
theorem uw541 : Cond.instanceMethod yX9_longer ∈ wsU := ut5 (List.mem_of_getElem? (i := 140) (by decide +kernel)) rfl
theorem uw542 : Cond.selects RX9 yX9_longer yX9_longer ∈ wsU := ut5 (List.mem_of_getElem? (i := 141) (by decide +kernel)) rfl
theorem uw543 : Cond.code yX9_longer cX9_longer 5 (some .int) ∈ wsU := ut5 (List.mem_of_getElem? (i := 142) (by decide +kernel)) rfl
theorem uw544 : Cond.methodLink RL 54 yX8_round ∈ wsU := ut2 (List.mem_of_getElem? (i := 164) (by decide +kernel)) rfl
theorem uw545 : Cond.instanceMethod yX8_round ∈ wsU := ut2 (List.mem_of_getElem? (i := 165) (by decide +kernel)) rfl
theorem uw546 : Cond.selects RX8 yX8_round yX8_round ∈ wsU := ut2 (List.mem_of_getElem? (i := 166) (by decide +kernel)) rfl
theorem uw547 : Cond.code yX8_round cX8_round 3 (some .int) ∈ wsU := ut2 (List.mem_of_getElem? (i := 167) (by decide +kernel)) rfl
theorem uw548 : Cond.methodLink RL 57 yX9_round ∈ wsU := ut5 (List.mem_of_getElem? (i := 143) (by decide +kernel)) rfl
theorem uw549 : Cond.instanceMethod yX9_round ∈ wsU := ut5 (List.mem_of_getElem? (i := 144) (by decide +kernel)) rfl
theorem uw550 : Cond.selects RX9 yX9_round yX9_round ∈ wsU := ut5 (List.mem_of_getElem? (i := 145) (by decide +kernel)) rfl
theorem uw551 : Cond.code yX9_round cX9_round 4 (some .int) ∈ wsU := ut5 (List.mem_of_getElem? (i := 146) (by decide +kernel)) rfl
theorem uw552 : Cond.methodLink RL 58 yX8_over ∈ wsU := ut2 (List.mem_of_getElem? (i := 187) (by decide +kernel)) rfl
theorem uw553 : Cond.instanceMethod yX8_over ∈ wsU := ut2 (List.mem_of_getElem? (i := 188) (by decide +kernel)) rfl
theorem uw554 : Cond.selects RX8 yX8_over yX8_over ∈ wsU := ut2 (List.mem_of_getElem? (i := 189) (by decide +kernel)) rfl
theorem uw555 : Cond.code yX8_over cX8_over 3 (some .int) ∈ wsU := ut2 (List.mem_of_getElem? (i := 190) (by decide +kernel)) rfl
theorem uw556 : Cond.methodLink RL 61 yX9_over ∈ wsU := ut5 (List.mem_of_getElem? (i := 148) (by decide +kernel)) rfl
theorem uw557 : Cond.instanceMethod yX9_over ∈ wsU := ut5 (List.mem_of_getElem? (i := 149) (by decide +kernel)) rfl
theorem uw558 : Cond.selects RX9 yX9_over yX9_over ∈ wsU := ut5 (List.mem_of_getElem? (i := 150) (by decide +kernel)) rfl
theorem uw559 : Cond.code yX9_over cX9_over 4 (some .int) ∈ wsU := ut5 (List.mem_of_getElem? (i := 151) (by decide +kernel)) rfl
theorem uw560 : Cond.methodLink RL 62 yX8_sum ∈ wsU := ut2 (List.mem_of_getElem? (i := 200) (by decide +kernel)) rfl
theorem uw561 : Cond.instanceMethod yX8_sum ∈ wsU := ut2 (List.mem_of_getElem? (i := 201) (by decide +kernel)) rfl
theorem uw562 : Cond.selects RX8 yX8_sum yX8_sum ∈ wsU := ut2 (List.mem_of_getElem? (i := 202) (by decide +kernel)) rfl
theorem uw563 : Cond.code yX8_sum cX8_sum 2 (some .int) ∈ wsU := ut2 (List.mem_of_getElem? (i := 203) (by decide +kernel)) rfl
theorem uw564 : Cond.methodLink RL 66 yX9_sum ∈ wsU := ut5 (List.mem_of_getElem? (i := 156) (by decide +kernel)) rfl
theorem uw565 : Cond.instanceMethod yX9_sum ∈ wsU := ut5 (List.mem_of_getElem? (i := 157) (by decide +kernel)) rfl
theorem uw566 : Cond.selects RX9 yX9_sum yX9_sum ∈ wsU := ut5 (List.mem_of_getElem? (i := 158) (by decide +kernel)) rfl
theorem uw567 : Cond.code yX9_sum cX9_sum 3 (some .int) ∈ wsU := ut5 (List.mem_of_getElem? (i := 159) (by decide +kernel)) rfl
theorem uw568 : Cond.methodLink RL 67 yX8_roundOf ∈ wsU := ut3 (List.mem_of_getElem? (i := 25) (by decide +kernel)) rfl
theorem uw569 : Cond.instanceMethod yX8_roundOf ∈ wsU := ut3 (List.mem_of_getElem? (i := 26) (by decide +kernel)) rfl
theorem uw570 : Cond.selects RX8 yX8_roundOf yX8_roundOf ∈ wsU := ut3 (List.mem_of_getElem? (i := 27) (by decide +kernel)) rfl
theorem uw571 : Cond.code yX8_roundOf cX8_roundOf 4 (some .int) ∈ wsU := ut3 (List.mem_of_getElem? (i := 28) (by decide +kernel)) rfl
theorem uw572 : Cond.methodLink RL 70 yX9_roundOf ∈ wsU := ut5 (List.mem_of_getElem? (i := 196) (by decide +kernel)) rfl
theorem uw573 : Cond.instanceMethod yX9_roundOf ∈ wsU := ut5 (List.mem_of_getElem? (i := 197) (by decide +kernel)) rfl
theorem uw574 : Cond.selects RX9 yX9_roundOf yX9_roundOf ∈ wsU := ut5 (List.mem_of_getElem? (i := 198) (by decide +kernel)) rfl
theorem uw575 : Cond.code yX9_roundOf cX9_roundOf 3 (some .int) ∈ wsU := ut5 (List.mem_of_getElem? (i := 199) (by decide +kernel)) rfl
theorem uw576 : Cond.methodLink RL 71 yX8_as ∈ wsU := ut3 (List.mem_of_getElem? (i := 30) (by decide +kernel)) rfl
theorem uw577 : Cond.instanceMethod yX8_as ∈ wsU := ut3 (List.mem_of_getElem? (i := 31) (by decide +kernel)) rfl
theorem uw578 : Cond.selects RX8 yX8_as yX8_as ∈ wsU := ut3 (List.mem_of_getElem? (i := 32) (by decide +kernel)) rfl
theorem uw579 : Cond.code yX8_as cX8_as 3 (some .int) ∈ wsU := ut3 (List.mem_of_getElem? (i := 33) (by decide +kernel)) rfl
theorem uw580 : Cond.methodLink RL 74 yX9_as ∈ wsU := ut5 (List.mem_of_getElem? (i := 202) (by decide +kernel)) rfl
theorem uw581 : Cond.instanceMethod yX9_as ∈ wsU := ut5 (List.mem_of_getElem? (i := 203) (by decide +kernel)) rfl
theorem uw582 : Cond.selects RX9 yX9_as yX9_as ∈ wsU := ut5 (List.mem_of_getElem? (i := 204) (by decide +kernel)) rfl
theorem uw583 : Cond.code yX9_as cX9_as 5 (some .int) ∈ wsU := ut5 (List.mem_of_getElem? (i := 205) (by decide +kernel)) rfl
theorem uw584 : Cond.methodLink RL 75 yX8_live ∈ wsU := ut3 (List.mem_of_getElem? (i := 40) (by decide +kernel)) rfl
theorem uw585 : Cond.instanceMethod yX8_live ∈ wsU := ut3 (List.mem_of_getElem? (i := 41) (by decide +kernel)) rfl
theorem uw586 : Cond.selects RX8 yX8_live yX8_live ∈ wsU := ut3 (List.mem_of_getElem? (i := 42) (by decide +kernel)) rfl
theorem uw587 : Cond.code yX8_live cX8_live 2 (some .int) ∈ wsU := ut3 (List.mem_of_getElem? (i := 43) (by decide +kernel)) rfl
theorem uw588 : Cond.methodLink RL 78 yX9_live ∈ wsU := ut5 (List.mem_of_getElem? (i := 207) (by decide +kernel)) rfl
theorem uw589 : Cond.instanceMethod yX9_live ∈ wsU := ut5 (List.mem_of_getElem? (i := 208) (by decide +kernel)) rfl
theorem uw590 : Cond.selects RX9 yX9_live yX9_live ∈ wsU := ut5 (List.mem_of_getElem? (i := 209) (by decide +kernel)) rfl
theorem uw591 : Cond.code yX9_live cX9_live 2 (some .int) ∈ wsU := ut5 (List.mem_of_getElem? (i := 210) (by decide +kernel)) rfl
theorem uw592 : Cond.methodLink RL 79 yX8_trip ∈ wsU := ut3 (List.mem_of_getElem? (i := 52) (by decide +kernel)) rfl
theorem uw593 : Cond.instanceMethod yX8_trip ∈ wsU := ut3 (List.mem_of_getElem? (i := 53) (by decide +kernel)) rfl
theorem uw594 : Cond.selects RX8 yX8_trip yX8_trip ∈ wsU := ut3 (List.mem_of_getElem? (i := 54) (by decide +kernel)) rfl
theorem uw595 : Cond.code yX8_trip cX8_trip 2 (some .int) ∈ wsU := ut3 (List.mem_of_getElem? (i := 55) (by decide +kernel)) rfl
theorem uw596 : Cond.methodLink RL 82 yX9_trip ∈ wsU := ut5 (List.mem_of_getElem? (i := 219) (by decide +kernel)) rfl
theorem uw597 : Cond.instanceMethod yX9_trip ∈ wsU := ut5 (List.mem_of_getElem? (i := 220) (by decide +kernel)) rfl
theorem uw598 : Cond.selects RX9 yX9_trip yX9_trip ∈ wsU := ut5 (List.mem_of_getElem? (i := 221) (by decide +kernel)) rfl
theorem uw599 : Cond.code yX9_trip cX9_trip 3 (some .int) ∈ wsU := ut5 (List.mem_of_getElem? (i := 222) (by decide +kernel)) rfl
theorem uw600 : Cond.methodLink RL 83 yX8_meet ∈ wsU := ut3 (List.mem_of_getElem? (i := 57) (by decide +kernel)) rfl
theorem uw601 : Cond.instanceMethod yX8_meet ∈ wsU := ut3 (List.mem_of_getElem? (i := 58) (by decide +kernel)) rfl
theorem uw602 : Cond.selects RX8 yX8_meet yX8_meet ∈ wsU := ut3 (List.mem_of_getElem? (i := 59) (by decide +kernel)) rfl
theorem uw603 : Cond.code yX8_meet cX8_meet 5 (some .int) ∈ wsU := ut3 (List.mem_of_getElem? (i := 60) (by decide +kernel)) rfl
theorem uw604 : Cond.methodLink RL 86 yX9_meet ∈ wsU := ut5 (List.mem_of_getElem? (i := 223) (by decide +kernel)) rfl
theorem uw605 : Cond.instanceMethod yX9_meet ∈ wsU := ut5 (List.mem_of_getElem? (i := 224) (by decide +kernel)) rfl
theorem uw606 : Cond.selects RX9 yX9_meet yX9_meet ∈ wsU := ut5 (List.mem_of_getElem? (i := 225) (by decide +kernel)) rfl
theorem uw607 : Cond.code yX9_meet cX9_meet 8 (some .int) ∈ wsU := ut5 (List.mem_of_getElem? (i := 226) (by decide +kernel)) rfl
theorem uw608 : Cond.methodLink RL 87 yX8_fit ∈ wsU := ut3 (List.mem_of_getElem? (i := 62) (by decide +kernel)) rfl
theorem uw609 : Cond.instanceMethod yX8_fit ∈ wsU := ut3 (List.mem_of_getElem? (i := 63) (by decide +kernel)) rfl
theorem uw610 : Cond.selects RX8 yX8_fit yX8_fit ∈ wsU := ut3 (List.mem_of_getElem? (i := 64) (by decide +kernel)) rfl
theorem uw611 : Cond.code yX8_fit cX8_fit 1 (some .int) ∈ wsU := ut3 (List.mem_of_getElem? (i := 65) (by decide +kernel)) rfl
theorem uw612 : Cond.methodLink RL 90 yX9_fit ∈ wsU := ut5 (List.mem_of_getElem? (i := 231) (by decide +kernel)) rfl
theorem uw613 : Cond.instanceMethod yX9_fit ∈ wsU := ut5 (List.mem_of_getElem? (i := 232) (by decide +kernel)) rfl
theorem uw614 : Cond.selects RX9 yX9_fit yX9_fit ∈ wsU := ut5 (List.mem_of_getElem? (i := 233) (by decide +kernel)) rfl
theorem uw615 : Cond.code yX9_fit cX9_fit 1 (some .int) ∈ wsU := ut5 (List.mem_of_getElem? (i := 234) (by decide +kernel)) rfl
theorem uw616 : Cond.methodLink RL 91 yX8_height ∈ wsU := ut3 (List.mem_of_getElem? (i := 87) (by decide +kernel)) rfl
theorem uw617 : Cond.instanceMethod yX8_height ∈ wsU := ut3 (List.mem_of_getElem? (i := 88) (by decide +kernel)) rfl
theorem uw618 : Cond.selects RX8 yX8_height yX8_height ∈ wsU := ut3 (List.mem_of_getElem? (i := 89) (by decide +kernel)) rfl
theorem uw619 : Cond.code yX8_height cX8_height 2 (some .int) ∈ wsU := ut3 (List.mem_of_getElem? (i := 90) (by decide +kernel)) rfl
theorem uw620 : Cond.methodLink RL 94 yX9_height ∈ wsU := ut6 (List.mem_of_getElem? (i := 7) (by decide +kernel)) rfl
theorem uw621 : Cond.instanceMethod yX9_height ∈ wsU := ut6 (List.mem_of_getElem? (i := 8) (by decide +kernel)) rfl
theorem uw622 : Cond.selects RX9 yX9_height yX9_height ∈ wsU := ut6 (List.mem_of_getElem? (i := 9) (by decide +kernel)) rfl
theorem uw623 : Cond.code yX9_height cX9_height 2 (some .int) ∈ wsU := ut6 (List.mem_of_getElem? (i := 10) (by decide +kernel)) rfl
theorem uw624 : Cond.methodLink RL 95 yX8_paper ∈ wsU := ut3 (List.mem_of_getElem? (i := 91) (by decide +kernel)) rfl
theorem uw625 : Cond.instanceMethod yX8_paper ∈ wsU := ut3 (List.mem_of_getElem? (i := 92) (by decide +kernel)) rfl
theorem uw626 : Cond.selects RX8 yX8_paper yX8_paper ∈ wsU := ut3 (List.mem_of_getElem? (i := 93) (by decide +kernel)) rfl
theorem uw627 : Cond.code yX8_paper cX8_paper 3 (some .int) ∈ wsU := ut3 (List.mem_of_getElem? (i := 94) (by decide +kernel)) rfl
theorem uw628 : Cond.methodLink RL 98 yX9_paper ∈ wsU := ut6 (List.mem_of_getElem? (i := 11) (by decide +kernel)) rfl
theorem uw629 : Cond.instanceMethod yX9_paper ∈ wsU := ut6 (List.mem_of_getElem? (i := 12) (by decide +kernel)) rfl
theorem uw630 : Cond.selects RX9 yX9_paper yX9_paper ∈ wsU := ut6 (List.mem_of_getElem? (i := 13) (by decide +kernel)) rfl
theorem uw631 : Cond.code yX9_paper cX9_paper 3 (some .int) ∈ wsU := ut6 (List.mem_of_getElem? (i := 14) (by decide +kernel)) rfl
theorem uw632 : Cond.methodLink RL 99 yX8_worst ∈ wsU := ut3 (List.mem_of_getElem? (i := 99) (by decide +kernel)) rfl
theorem uw633 : Cond.instanceMethod yX8_worst ∈ wsU := ut3 (List.mem_of_getElem? (i := 100) (by decide +kernel)) rfl
theorem uw634 : Cond.selects RX8 yX8_worst yX8_worst ∈ wsU := ut3 (List.mem_of_getElem? (i := 101) (by decide +kernel)) rfl
theorem uw635 : Cond.code yX8_worst cX8_worst 2 (some .int) ∈ wsU := ut3 (List.mem_of_getElem? (i := 102) (by decide +kernel)) rfl
theorem uw636 : Cond.methodLink RL 102 yX9_worst ∈ wsU := ut6 (List.mem_of_getElem? (i := 15) (by decide +kernel)) rfl
theorem uw637 : Cond.instanceMethod yX9_worst ∈ wsU := ut6 (List.mem_of_getElem? (i := 16) (by decide +kernel)) rfl
theorem uw638 : Cond.selects RX9 yX9_worst yX9_worst ∈ wsU := ut6 (List.mem_of_getElem? (i := 17) (by decide +kernel)) rfl
theorem uw639 : Cond.code yX9_worst cX9_worst 5 (some .int) ∈ wsU := ut6 (List.mem_of_getElem? (i := 18) (by decide +kernel)) rfl
theorem uw640 : Cond.methodLink RL 103 yX8_walk ∈ wsU := ut3 (List.mem_of_getElem? (i := 111) (by decide +kernel)) rfl
theorem uw641 : Cond.instanceMethod yX8_walk ∈ wsU := ut3 (List.mem_of_getElem? (i := 112) (by decide +kernel)) rfl
theorem uw642 : Cond.selects RX8 yX8_walk yX8_walk ∈ wsU := ut3 (List.mem_of_getElem? (i := 113) (by decide +kernel)) rfl
theorem uw643 : Cond.code yX8_walk cX8_walk 6 (some .int) ∈ wsU := ut3 (List.mem_of_getElem? (i := 114) (by decide +kernel)) rfl
theorem uw644 : Cond.methodLink RL 106 yX9_walk ∈ wsU := ut6 (List.mem_of_getElem? (i := 19) (by decide +kernel)) rfl
theorem uw645 : Cond.instanceMethod yX9_walk ∈ wsU := ut6 (List.mem_of_getElem? (i := 20) (by decide +kernel)) rfl
theorem uw646 : Cond.selects RX9 yX9_walk yX9_walk ∈ wsU := ut6 (List.mem_of_getElem? (i := 21) (by decide +kernel)) rfl
theorem uw647 : Cond.code yX9_walk cX9_walk 5 (some .int) ∈ wsU := ut6 (List.mem_of_getElem? (i := 22) (by decide +kernel)) rfl
theorem uw648 : Cond.methodLink RL 107 yX8_on ∈ wsU := ut3 (List.mem_of_getElem? (i := 119) (by decide +kernel)) rfl
theorem uw649 : Cond.instanceMethod yX8_on ∈ wsU := ut3 (List.mem_of_getElem? (i := 120) (by decide +kernel)) rfl
theorem uw650 : Cond.selects RX8 yX8_on yX8_on ∈ wsU := ut3 (List.mem_of_getElem? (i := 121) (by decide +kernel)) rfl
theorem uw651 : Cond.code yX8_on cX8_on 3 (some .int) ∈ wsU := ut3 (List.mem_of_getElem? (i := 122) (by decide +kernel)) rfl
theorem uw652 : Cond.methodLink RL 110 yX9_on ∈ wsU := ut6 (List.mem_of_getElem? (i := 32) (by decide +kernel)) rfl
theorem uw653 : Cond.instanceMethod yX9_on ∈ wsU := ut6 (List.mem_of_getElem? (i := 33) (by decide +kernel)) rfl
theorem uw654 : Cond.selects RX9 yX9_on yX9_on ∈ wsU := ut6 (List.mem_of_getElem? (i := 34) (by decide +kernel)) rfl
theorem uw655 : Cond.code yX9_on cX9_on 4 (some .int) ∈ wsU := ut6 (List.mem_of_getElem? (i := 35) (by decide +kernel)) rfl
theorem uw656 : Cond.methodLink RL 111 yX8_learn ∈ wsU := ut3 (List.mem_of_getElem? (i := 124) (by decide +kernel)) rfl
theorem uw657 : Cond.instanceMethod yX8_learn ∈ wsU := ut3 (List.mem_of_getElem? (i := 125) (by decide +kernel)) rfl
theorem uw658 : Cond.selects RX8 yX8_learn yX8_learn ∈ wsU := ut3 (List.mem_of_getElem? (i := 126) (by decide +kernel)) rfl
theorem uw659 : Cond.code yX8_learn cX8_learn 1 (some .int) ∈ wsU := ut3 (List.mem_of_getElem? (i := 127) (by decide +kernel)) rfl
theorem uw660 : Cond.methodLink RL 114 yX9_learn ∈ wsU := ut6 (List.mem_of_getElem? (i := 36) (by decide +kernel)) rfl
theorem uw661 : Cond.instanceMethod yX9_learn ∈ wsU := ut6 (List.mem_of_getElem? (i := 37) (by decide +kernel)) rfl
theorem uw662 : Cond.selects RX9 yX9_learn yX9_learn ∈ wsU := ut6 (List.mem_of_getElem? (i := 38) (by decide +kernel)) rfl
theorem uw663 : Cond.code yX9_learn cX9_learn 1 (some .int) ∈ wsU := ut6 (List.mem_of_getElem? (i := 39) (by decide +kernel)) rfl
theorem uw664 : Cond.methodLink RL 115 yX8_lies ∈ wsU := ut3 (List.mem_of_getElem? (i := 149) (by decide +kernel)) rfl
theorem uw665 : Cond.instanceMethod yX8_lies ∈ wsU := ut3 (List.mem_of_getElem? (i := 150) (by decide +kernel)) rfl
theorem uw666 : Cond.selects RX8 yX8_lies yX8_lies ∈ wsU := ut3 (List.mem_of_getElem? (i := 151) (by decide +kernel)) rfl
theorem uw667 : Cond.code yX8_lies cX8_lies 1 (some .int) ∈ wsU := ut3 (List.mem_of_getElem? (i := 152) (by decide +kernel)) rfl
theorem uw668 : Cond.methodLink RL 118 yX9_lies ∈ wsU := ut6 (List.mem_of_getElem? (i := 56) (by decide +kernel)) rfl
theorem uw669 : Cond.instanceMethod yX9_lies ∈ wsU := ut6 (List.mem_of_getElem? (i := 57) (by decide +kernel)) rfl
theorem uw670 : Cond.selects RX9 yX9_lies yX9_lies ∈ wsU := ut6 (List.mem_of_getElem? (i := 58) (by decide +kernel)) rfl
theorem uw671 : Cond.code yX9_lies cX9_lies 2 (some .int) ∈ wsU := ut6 (List.mem_of_getElem? (i := 59) (by decide +kernel)) rfl
theorem uw672 : Cond.methodLink RL 119 yX8_known ∈ wsU := ut3 (List.mem_of_getElem? (i := 165) (by decide +kernel)) rfl
theorem uw673 : Cond.instanceMethod yX8_known ∈ wsU := ut3 (List.mem_of_getElem? (i := 166) (by decide +kernel)) rfl
theorem uw674 : Cond.selects RX8 yX8_known yX8_known ∈ wsU := ut3 (List.mem_of_getElem? (i := 167) (by decide +kernel)) rfl
theorem uw675 : Cond.code yX8_known cX8_known 2 (some .int) ∈ wsU := ut3 (List.mem_of_getElem? (i := 168) (by decide +kernel)) rfl
theorem uw676 : Cond.methodLink RL 122 yX9_known ∈ wsU := ut6 (List.mem_of_getElem? (i := 68) (by decide +kernel)) rfl
theorem uw677 : Cond.methodLink RL 123 yX8_ask ∈ wsU := ut3 (List.mem_of_getElem? (i := 181) (by decide +kernel)) rfl
theorem uw678 : Cond.instanceMethod yX8_ask ∈ wsU := ut3 (List.mem_of_getElem? (i := 182) (by decide +kernel)) rfl
theorem uw679 : Cond.selects RX8 yX8_ask yX8_ask ∈ wsU := ut3 (List.mem_of_getElem? (i := 183) (by decide +kernel)) rfl
theorem uw680 : Cond.code yX8_ask cX8_ask 2 (some .int) ∈ wsU := ut3 (List.mem_of_getElem? (i := 184) (by decide +kernel)) rfl
theorem uw681 : Cond.methodLink RL 126 yX9_ask ∈ wsU := ut6 (List.mem_of_getElem? (i := 76) (by decide +kernel)) rfl
theorem uw682 : Cond.instanceMethod yX9_ask ∈ wsU := ut6 (List.mem_of_getElem? (i := 77) (by decide +kernel)) rfl
theorem uw683 : Cond.selects RX9 yX9_ask yX9_ask ∈ wsU := ut6 (List.mem_of_getElem? (i := 78) (by decide +kernel)) rfl
theorem uw684 : Cond.code yX9_ask cX9_ask 4 (some .int) ∈ wsU := ut6 (List.mem_of_getElem? (i := 79) (by decide +kernel)) rfl
theorem uw685 : Cond.methodLink RL 127 yX8_saves ∈ wsU := ut3 (List.mem_of_getElem? (i := 189) (by decide +kernel)) rfl
theorem uw686 : Cond.instanceMethod yX8_saves ∈ wsU := ut3 (List.mem_of_getElem? (i := 190) (by decide +kernel)) rfl
theorem uw687 : Cond.selects RX8 yX8_saves yX8_saves ∈ wsU := ut3 (List.mem_of_getElem? (i := 191) (by decide +kernel)) rfl
theorem uw688 : Cond.code yX8_saves cX8_saves 4 (some .int) ∈ wsU := ut3 (List.mem_of_getElem? (i := 192) (by decide +kernel)) rfl
theorem uw689 : Cond.methodLink RL 130 yX9_saves ∈ wsU := ut6 (List.mem_of_getElem? (i := 80) (by decide +kernel)) rfl
theorem uw690 : Cond.instanceMethod yX9_saves ∈ wsU := ut6 (List.mem_of_getElem? (i := 81) (by decide +kernel)) rfl
theorem uw691 : Cond.selects RX9 yX9_saves yX9_saves ∈ wsU := ut6 (List.mem_of_getElem? (i := 82) (by decide +kernel)) rfl
theorem uw692 : Cond.code yX9_saves cX9_saves 5 (some .int) ∈ wsU := ut6 (List.mem_of_getElem? (i := 83) (by decide +kernel)) rfl
theorem uw693 : Cond.methodLink RL 131 yX8_mend ∈ wsU := ut3 (List.mem_of_getElem? (i := 203) (by decide +kernel)) rfl
theorem uw694 : Cond.instanceMethod yX8_mend ∈ wsU := ut3 (List.mem_of_getElem? (i := 204) (by decide +kernel)) rfl
theorem uw695 : Cond.selects RX8 yX8_mend yX8_mend ∈ wsU := ut3 (List.mem_of_getElem? (i := 205) (by decide +kernel)) rfl
theorem uw696 : Cond.code yX8_mend cX8_mend 3 (some .int) ∈ wsU := ut3 (List.mem_of_getElem? (i := 206) (by decide +kernel)) rfl
theorem uw697 : Cond.methodLink RL 134 yX9_mend ∈ wsU := ut6 (List.mem_of_getElem? (i := 92) (by decide +kernel)) rfl
theorem uw698 : Cond.instanceMethod yX9_mend ∈ wsU := ut6 (List.mem_of_getElem? (i := 93) (by decide +kernel)) rfl
theorem uw699 : Cond.selects RX9 yX9_mend yX9_mend ∈ wsU := ut6 (List.mem_of_getElem? (i := 94) (by decide +kernel)) rfl
theorem uw700 : Cond.code yX9_mend cX9_mend 7 (some .int) ∈ wsU := ut6 (List.mem_of_getElem? (i := 95) (by decide +kernel)) rfl
theorem uw701 : Cond.methodLink RL 135 yX8_goes ∈ wsU := ut3 (List.mem_of_getElem? (i := 211) (by decide +kernel)) rfl
theorem uw702 : Cond.instanceMethod yX8_goes ∈ wsU := ut3 (List.mem_of_getElem? (i := 212) (by decide +kernel)) rfl
theorem uw703 : Cond.selects RX8 yX8_goes yX8_goes ∈ wsU := ut3 (List.mem_of_getElem? (i := 213) (by decide +kernel)) rfl
theorem uw704 : Cond.code yX8_goes cX8_goes 4 (some .int) ∈ wsU := ut3 (List.mem_of_getElem? (i := 214) (by decide +kernel)) rfl
theorem uw705 : Cond.methodLink RL 138 yX9_goes ∈ wsU := ut6 (List.mem_of_getElem? (i := 96) (by decide +kernel)) rfl
theorem uw706 : Cond.instanceMethod yX9_goes ∈ wsU := ut6 (List.mem_of_getElem? (i := 97) (by decide +kernel)) rfl
theorem uw707 : Cond.selects RX9 yX9_goes yX9_goes ∈ wsU := ut6 (List.mem_of_getElem? (i := 98) (by decide +kernel)) rfl
theorem uw708 : Cond.code yX9_goes cX9_goes 5 (some .int) ∈ wsU := ut6 (List.mem_of_getElem? (i := 99) (by decide +kernel)) rfl
theorem uw709 : Cond.methodLink RL 139 yX8_hollow ∈ wsU := ut3 (List.mem_of_getElem? (i := 225) (by decide +kernel)) rfl
theorem uw710 : Cond.instanceMethod yX8_hollow ∈ wsU := ut3 (List.mem_of_getElem? (i := 226) (by decide +kernel)) rfl
theorem uw711 : Cond.selects RX8 yX8_hollow yX8_hollow ∈ wsU := ut3 (List.mem_of_getElem? (i := 227) (by decide +kernel)) rfl
theorem uw712 : Cond.code yX8_hollow cX8_hollow 1 (some .int) ∈ wsU := ut3 (List.mem_of_getElem? (i := 228) (by decide +kernel)) rfl
theorem uw713 : Cond.methodLink RL 142 yX9_hollow ∈ wsU := ut6 (List.mem_of_getElem? (i := 105) (by decide +kernel)) rfl
theorem uw714 : Cond.instanceMethod yX9_hollow ∈ wsU := ut6 (List.mem_of_getElem? (i := 106) (by decide +kernel)) rfl
theorem uw715 : Cond.selects RX9 yX9_hollow yX9_hollow ∈ wsU := ut6 (List.mem_of_getElem? (i := 107) (by decide +kernel)) rfl
theorem uw716 : Cond.code yX9_hollow cX9_hollow 5 (some .int) ∈ wsU := ut6 (List.mem_of_getElem? (i := 108) (by decide +kernel)) rfl
theorem uw717 : Cond.methodLink RL 143 yX8_feed ∈ wsU := ut3 (List.mem_of_getElem? (i := 234) (by decide +kernel)) rfl
theorem uw718 : Cond.instanceMethod yX8_feed ∈ wsU := ut3 (List.mem_of_getElem? (i := 235) (by decide +kernel)) rfl
theorem uw719 : Cond.selects RX8 yX8_feed yX8_feed ∈ wsU := ut3 (List.mem_of_getElem? (i := 236) (by decide +kernel)) rfl
theorem uw720 : Cond.code yX8_feed cX8_feed 4 (some .int) ∈ wsU := ut3 (List.mem_of_getElem? (i := 237) (by decide +kernel)) rfl
theorem uw721 : Cond.methodLink RL 146 yX9_feed ∈ wsU := ut6 (List.mem_of_getElem? (i := 109) (by decide +kernel)) rfl
theorem uw722 : Cond.instanceMethod yX9_feed ∈ wsU := ut6 (List.mem_of_getElem? (i := 110) (by decide +kernel)) rfl
theorem uw723 : Cond.selects RX9 yX9_feed yX9_feed ∈ wsU := ut6 (List.mem_of_getElem? (i := 111) (by decide +kernel)) rfl
theorem uw724 : Cond.code yX9_feed cX9_feed 4 (some .int) ∈ wsU := ut6 (List.mem_of_getElem? (i := 112) (by decide +kernel)) rfl
theorem uw725 : Cond.methodLink RL 147 yX8_wipe ∈ wsU := ut4 (List.mem_of_getElem? (i := 2) (by decide +kernel)) rfl
theorem uw726 : Cond.instanceMethod yX8_wipe ∈ wsU := ut4 (List.mem_of_getElem? (i := 3) (by decide +kernel)) rfl
theorem uw727 : Cond.selects RX8 yX8_wipe yX8_wipe ∈ wsU := ut4 (List.mem_of_getElem? (i := 4) (by decide +kernel)) rfl
theorem uw728 : Cond.code yX8_wipe cX8_wipe 2 (some .int) ∈ wsU := ut4 (List.mem_of_getElem? (i := 5) (by decide +kernel)) rfl
theorem uw729 : Cond.methodLink RL 150 yX9_wipe ∈ wsU := ut6 (List.mem_of_getElem? (i := 114) (by decide +kernel)) rfl
theorem uw730 : Cond.instanceMethod yX9_wipe ∈ wsU := ut6 (List.mem_of_getElem? (i := 115) (by decide +kernel)) rfl
theorem uw731 : Cond.selects RX9 yX9_wipe yX9_wipe ∈ wsU := ut6 (List.mem_of_getElem? (i := 116) (by decide +kernel)) rfl
theorem uw732 : Cond.code yX9_wipe cX9_wipe 2 (some .int) ∈ wsU := ut6 (List.mem_of_getElem? (i := 117) (by decide +kernel)) rfl
theorem uw733 : Cond.methodLink RL 151 yX8_land ∈ wsU := ut4 (List.mem_of_getElem? (i := 6) (by decide +kernel)) rfl
theorem uw734 : Cond.instanceMethod yX8_land ∈ wsU := ut4 (List.mem_of_getElem? (i := 7) (by decide +kernel)) rfl
theorem uw735 : Cond.selects RX8 yX8_land yX8_land ∈ wsU := ut4 (List.mem_of_getElem? (i := 8) (by decide +kernel)) rfl
theorem uw736 : Cond.code yX8_land cX8_land 2 (some .int) ∈ wsU := ut4 (List.mem_of_getElem? (i := 9) (by decide +kernel)) rfl
theorem uw737 : Cond.methodLink RL 154 yX9_land ∈ wsU := ut6 (List.mem_of_getElem? (i := 118) (by decide +kernel)) rfl
theorem uw738 : Cond.instanceMethod yX9_land ∈ wsU := ut6 (List.mem_of_getElem? (i := 119) (by decide +kernel)) rfl
theorem uw739 : Cond.selects RX9 yX9_land yX9_land ∈ wsU := ut6 (List.mem_of_getElem? (i := 120) (by decide +kernel)) rfl
theorem uw740 : Cond.code yX9_land cX9_land 2 (some .int) ∈ wsU := ut6 (List.mem_of_getElem? (i := 121) (by decide +kernel)) rfl
theorem uw741 : Cond.methodLink RL 155 yX8_sheet ∈ wsU := ut4 (List.mem_of_getElem? (i := 126) (by decide +kernel)) rfl
theorem uw742 : Cond.instanceMethod yX8_sheet ∈ wsU := ut4 (List.mem_of_getElem? (i := 127) (by decide +kernel)) rfl
theorem uw743 : Cond.selects RX8 yX8_sheet yX8_sheet ∈ wsU := ut4 (List.mem_of_getElem? (i := 128) (by decide +kernel)) rfl
theorem uw744 : Cond.code yX8_sheet cX8_sheet 4 (some .int) ∈ wsU := ut4 (List.mem_of_getElem? (i := 129) (by decide +kernel)) rfl
theorem uw745 : Cond.methodLink RL 158 yX9_sheet ∈ wsU := ut6 (List.mem_of_getElem? (i := 176) (by decide +kernel)) rfl
theorem uw746 : Cond.instanceMethod yX9_sheet ∈ wsU := ut6 (List.mem_of_getElem? (i := 177) (by decide +kernel)) rfl
theorem uw747 : Cond.selects RX9 yX9_sheet yX9_sheet ∈ wsU := ut6 (List.mem_of_getElem? (i := 178) (by decide +kernel)) rfl
theorem uw748 : Cond.code yX9_sheet cX9_sheet 5 (some .int) ∈ wsU := ut6 (List.mem_of_getElem? (i := 179) (by decide +kernel)) rfl
theorem uw749 : Cond.constantLong RL 159 4294967295 ∈ wsU := ut6 (List.mem_of_getElem? (i := 230) (by decide +kernel)) rfl
theorem uw750 : Cond.methodLink RL 161 yX8_write ∈ wsU := ut4 (List.mem_of_getElem? (i := 138) (by decide +kernel)) rfl
theorem uw751 : Cond.instanceMethod yX8_write ∈ wsU := ut4 (List.mem_of_getElem? (i := 139) (by decide +kernel)) rfl
theorem uw752 : Cond.selects RX8 yX8_write yX8_write ∈ wsU := ut4 (List.mem_of_getElem? (i := 140) (by decide +kernel)) rfl
theorem uw753 : Cond.code yX8_write cX8_write 8 (some .long) ∈ wsU := ut4 (List.mem_of_getElem? (i := 141) (by decide +kernel)) rfl
theorem uw754 : Cond.methodLink RL 165 yX9_write ∈ wsU := ut6 (List.mem_of_getElem? (i := 185) (by decide +kernel)) rfl
theorem uw755 : Cond.instanceMethod yX9_write ∈ wsU := ut6 (List.mem_of_getElem? (i := 186) (by decide +kernel)) rfl
theorem uw756 : Cond.selects RX9 yX9_write yX9_write ∈ wsU := ut6 (List.mem_of_getElem? (i := 187) (by decide +kernel)) rfl
theorem uw757 : Cond.code yX9_write cX9_write 8 (some .long) ∈ wsU := ut6 (List.mem_of_getElem? (i := 188) (by decide +kernel)) rfl
theorem uw758 : Cond.methodLink RL 166 yX8_copy ∈ wsU := ut4 (List.mem_of_getElem? (i := 151) (by decide +kernel)) rfl
theorem uw759 : Cond.instanceMethod yX8_copy ∈ wsU := ut4 (List.mem_of_getElem? (i := 152) (by decide +kernel)) rfl
theorem uw760 : Cond.selects RX8 yX8_copy yX8_copy ∈ wsU := ut4 (List.mem_of_getElem? (i := 153) (by decide +kernel)) rfl
theorem uw761 : Cond.code yX8_copy cX8_copy 8 (some .int) ∈ wsU := ut4 (List.mem_of_getElem? (i := 154) (by decide +kernel)) rfl
theorem uw762 : Cond.methodLink RL 170 yX9_copy ∈ wsU := ut6 (List.mem_of_getElem? (i := 197) (by decide +kernel)) rfl
theorem uw763 : Cond.instanceMethod yX9_copy ∈ wsU := ut6 (List.mem_of_getElem? (i := 198) (by decide +kernel)) rfl
theorem uw764 : Cond.selects RX9 yX9_copy yX9_copy ∈ wsU := ut6 (List.mem_of_getElem? (i := 199) (by decide +kernel)) rfl
theorem uw765 : Cond.code yX9_copy cX9_copy 7 (some .int) ∈ wsU := ut6 (List.mem_of_getElem? (i := 200) (by decide +kernel)) rfl
theorem uw766 : Cond.methodLink RL 171 yX8_lays ∈ wsU := ut4 (List.mem_of_getElem? (i := 160) (by decide +kernel)) rfl
theorem uw767 : Cond.instanceMethod yX8_lays ∈ wsU := ut4 (List.mem_of_getElem? (i := 161) (by decide +kernel)) rfl
theorem uw768 : Cond.selects RX8 yX8_lays yX8_lays ∈ wsU := ut4 (List.mem_of_getElem? (i := 162) (by decide +kernel)) rfl
theorem uw769 : Cond.code yX8_lays cX8_lays 3 (some .int) ∈ wsU := ut4 (List.mem_of_getElem? (i := 163) (by decide +kernel)) rfl
theorem uw770 : Cond.methodLink RL 174 yX9_lays ∈ wsU := ut6 (List.mem_of_getElem? (i := 201) (by decide +kernel)) rfl
theorem uw771 : Cond.instanceMethod yX9_lays ∈ wsU := ut6 (List.mem_of_getElem? (i := 202) (by decide +kernel)) rfl
theorem uw772 : Cond.selects RX9 yX9_lays yX9_lays ∈ wsU := ut6 (List.mem_of_getElem? (i := 203) (by decide +kernel)) rfl
theorem uw773 : Cond.code yX9_lays cX9_lays 9 (some .int) ∈ wsU := ut6 (List.mem_of_getElem? (i := 204) (by decide +kernel)) rfl
theorem uw774 : Cond.methodLink RL 175 yX8_read ∈ wsU := ut4 (List.mem_of_getElem? (i := 170) (by decide +kernel)) rfl
theorem uw775 : Cond.instanceMethod yX8_read ∈ wsU := ut4 (List.mem_of_getElem? (i := 171) (by decide +kernel)) rfl
theorem uw776 : Cond.selects RX8 yX8_read yX8_read ∈ wsU := ut4 (List.mem_of_getElem? (i := 172) (by decide +kernel)) rfl
theorem uw777 : Cond.code yX8_read cX8_read 2 (some .int) ∈ wsU := ut4 (List.mem_of_getElem? (i := 173) (by decide +kernel)) rfl
theorem uw778 : Cond.methodLink RL 178 yX9_read ∈ wsU := ut6 (List.mem_of_getElem? (i := 205) (by decide +kernel)) rfl
theorem uw779 : Cond.instanceMethod yX9_read ∈ wsU := ut6 (List.mem_of_getElem? (i := 206) (by decide +kernel)) rfl
theorem uw780 : Cond.selects RX9 yX9_read yX9_read ∈ wsU := ut6 (List.mem_of_getElem? (i := 207) (by decide +kernel)) rfl
theorem uw781 : Cond.code yX9_read cX9_read 9 (some .int) ∈ wsU := ut6 (List.mem_of_getElem? (i := 208) (by decide +kernel)) rfl
theorem uw782 : Cond.methodLink RL 179 yX8_image ∈ wsU := ut4 (List.mem_of_getElem? (i := 178) (by decide +kernel)) rfl
theorem uw783 : Cond.instanceMethod yX8_image ∈ wsU := ut4 (List.mem_of_getElem? (i := 179) (by decide +kernel)) rfl
theorem uw784 : Cond.selects RX8 yX8_image yX8_image ∈ wsU := ut4 (List.mem_of_getElem? (i := 180) (by decide +kernel)) rfl
theorem uw785 : Cond.code yX8_image cX8_image 1 (some .int) ∈ wsU := ut4 (List.mem_of_getElem? (i := 181) (by decide +kernel)) rfl
theorem uw786 : Cond.methodLink RL 182 yX9_image ∈ wsU := ut6 (List.mem_of_getElem? (i := 209) (by decide +kernel)) rfl
theorem uw787 : Cond.instanceMethod yX9_image ∈ wsU := ut6 (List.mem_of_getElem? (i := 210) (by decide +kernel)) rfl
theorem uw788 : Cond.selects RX9 yX9_image yX9_image ∈ wsU := ut6 (List.mem_of_getElem? (i := 211) (by decide +kernel)) rfl
theorem uw789 : Cond.code yX9_image cX9_image 2 (some .int) ∈ wsU := ut6 (List.mem_of_getElem? (i := 212) (by decide +kernel)) rfl
theorem uw790 : Cond.methodLink RL 183 yX8_undo ∈ wsU := ut4 (List.mem_of_getElem? (i := 182) (by decide +kernel)) rfl
theorem uw791 : Cond.instanceMethod yX8_undo ∈ wsU := ut4 (List.mem_of_getElem? (i := 183) (by decide +kernel)) rfl
theorem uw792 : Cond.selects RX8 yX8_undo yX8_undo ∈ wsU := ut4 (List.mem_of_getElem? (i := 184) (by decide +kernel)) rfl
theorem uw793 : Cond.code yX8_undo cX8_undo 1 (some .int) ∈ wsU := ut4 (List.mem_of_getElem? (i := 185) (by decide +kernel)) rfl
theorem uw794 : Cond.methodLink RL 186 yX9_undo ∈ wsU := ut6 (List.mem_of_getElem? (i := 213) (by decide +kernel)) rfl
theorem uw795 : Cond.instanceMethod yX9_undo ∈ wsU := ut6 (List.mem_of_getElem? (i := 214) (by decide +kernel)) rfl
theorem uw796 : Cond.selects RX9 yX9_undo yX9_undo ∈ wsU := ut6 (List.mem_of_getElem? (i := 215) (by decide +kernel)) rfl
theorem uw797 : Cond.code yX9_undo cX9_undo 2 (some .int) ∈ wsU := ut6 (List.mem_of_getElem? (i := 216) (by decide +kernel)) rfl
theorem uw798 : Cond.methodLink RL 187 yX8_tear ∈ wsU := ut4 (List.mem_of_getElem? (i := 186) (by decide +kernel)) rfl
theorem uw799 : Cond.instanceMethod yX8_tear ∈ wsU := ut4 (List.mem_of_getElem? (i := 187) (by decide +kernel)) rfl
theorem uw800 : Cond.selects RX8 yX8_tear yX8_tear ∈ wsU := ut4 (List.mem_of_getElem? (i := 188) (by decide +kernel)) rfl
theorem uw801 : Cond.code yX8_tear cX8_tear 2 (some .int) ∈ wsU := ut4 (List.mem_of_getElem? (i := 189) (by decide +kernel)) rfl
theorem uw802 : Cond.methodLink RL 190 yX9_tear ∈ wsU := ut6 (List.mem_of_getElem? (i := 217) (by decide +kernel)) rfl
theorem uw803 : Cond.instanceMethod yX9_tear ∈ wsU := ut6 (List.mem_of_getElem? (i := 218) (by decide +kernel)) rfl
theorem uw804 : Cond.selects RX9 yX9_tear yX9_tear ∈ wsU := ut6 (List.mem_of_getElem? (i := 219) (by decide +kernel)) rfl
theorem uw805 : Cond.code yX9_tear cX9_tear 2 (some .int) ∈ wsU := ut6 (List.mem_of_getElem? (i := 220) (by decide +kernel)) rfl
theorem uw806 : Cond.methodLink RL 191 yX8_count ∈ wsU := ut4 (List.mem_of_getElem? (i := 190) (by decide +kernel)) rfl
theorem uw807 : Cond.instanceMethod yX8_count ∈ wsU := ut4 (List.mem_of_getElem? (i := 191) (by decide +kernel)) rfl
theorem uw808 : Cond.selects RX8 yX8_count yX8_count ∈ wsU := ut4 (List.mem_of_getElem? (i := 192) (by decide +kernel)) rfl
theorem uw809 : Cond.code yX8_count cX8_count 2 (some .int) ∈ wsU := ut4 (List.mem_of_getElem? (i := 193) (by decide +kernel)) rfl
theorem uw810 : Cond.methodLink RL 194 yX9_count ∈ wsU := ut6 (List.mem_of_getElem? (i := 221) (by decide +kernel)) rfl
theorem uw811 : Cond.instanceMethod yX9_count ∈ wsU := ut6 (List.mem_of_getElem? (i := 222) (by decide +kernel)) rfl
theorem uw812 : Cond.selects RX9 yX9_count yX9_count ∈ wsU := ut6 (List.mem_of_getElem? (i := 223) (by decide +kernel)) rfl
theorem uw813 : Cond.code yX9_count cX9_count 4 (some .int) ∈ wsU := ut6 (List.mem_of_getElem? (i := 224) (by decide +kernel)) rfl
theorem uw814 : Cond.methodLink RL 195 yX8_status ∈ wsU := ut4 (List.mem_of_getElem? (i := 198) (by decide +kernel)) rfl
theorem uw815 : Cond.instanceMethod yX8_status ∈ wsU := ut4 (List.mem_of_getElem? (i := 199) (by decide +kernel)) rfl
theorem uw816 : Cond.selects RX8 yX8_status yX8_status ∈ wsU := ut4 (List.mem_of_getElem? (i := 200) (by decide +kernel)) rfl
theorem uw817 : Cond.code yX8_status cX8_status 4 (some .int) ∈ wsU := ut4 (List.mem_of_getElem? (i := 201) (by decide +kernel)) rfl
theorem uw818 : Cond.methodLink RL 198 yX9_status ∈ wsU := ut6 (List.mem_of_getElem? (i := 226) (by decide +kernel)) rfl
theorem uw819 : Cond.instanceMethod yX9_status ∈ wsU := ut6 (List.mem_of_getElem? (i := 227) (by decide +kernel)) rfl
theorem uw820 : Cond.selects RX9 yX9_status yX9_status ∈ wsU := ut6 (List.mem_of_getElem? (i := 228) (by decide +kernel)) rfl
theorem uw821 : Cond.code yX9_status cX9_status 4 (some .int) ∈ wsU := ut6 (List.mem_of_getElem? (i := 229) (by decide +kernel)) rfl
theorem uw822 : Cond.classLink RL 7 RX8 ∈ wsU := ut1 (List.mem_of_getElem? (i := 17) (by decide +kernel)) rfl
theorem uw823 : Cond.instantiable RX8 12 ∈ wsU := ut1 (List.mem_of_getElem? (i := 18) (by decide +kernel)) rfl
theorem uw824 : Cond.instanceMethod yX8_init ∈ wsU := ut1 (List.mem_of_getElem? (i := 20) (by decide +kernel)) rfl
theorem uw825 : Cond.initialized yX8_init.cls ∈ wsU := ut1 (List.mem_of_getElem? (i := 1) (by decide +kernel)) rfl
theorem uw826 : Cond.code yX8_init cX8_init 2 none ∈ wsU := ut1 (List.mem_of_getElem? (i := 21) (by decide +kernel)) rfl
theorem uw827 : Cond.methodLink RL 9 yX8_init ∈ wsU := ut1 (List.mem_of_getElem? (i := 19) (by decide +kernel)) rfl
theorem uw828 : Cond.classLink RL 10 RX9 ∈ wsU := ut4 (List.mem_of_getElem? (i := 202) (by decide +kernel)) rfl
theorem uw829 : Cond.instantiable RX9 27 ∈ wsU := ut4 (List.mem_of_getElem? (i := 203) (by decide +kernel)) rfl
theorem uw830 : Cond.instanceMethod yX9_init ∈ wsU := ut4 (List.mem_of_getElem? (i := 205) (by decide +kernel)) rfl
theorem uw831 : Cond.initialized yX9_init.cls ∈ wsU := ut1 (List.mem_of_getElem? (i := 10) (by decide +kernel)) rfl
theorem uw832 : Cond.code yX9_init cX9_init 1 none ∈ wsU := ut4 (List.mem_of_getElem? (i := 206) (by decide +kernel)) rfl
theorem uw833 : Cond.methodLink RL 12 yX9_init ∈ wsU := ut4 (List.mem_of_getElem? (i := 204) (by decide +kernel)) rfl
theorem inUX8 : ∀ w ∈ u_ws RX8 TX8 12, w ∈ wsU := List.forall_mem_cons.mpr ⟨uw6, List.forall_mem_cons.mpr ⟨uw7, List.forall_mem_cons.mpr ⟨uw8, List.forall_mem_cons.mpr ⟨uw9, List.forall_mem_cons.mpr ⟨uw10, List.forall_mem_cons.mpr ⟨uw11, List.forall_mem_cons.mpr ⟨uw12, List.forall_mem_cons.mpr ⟨uw13, List.forall_mem_cons.mpr ⟨uw14, List.forall_mem_cons.mpr ⟨uw15, List.forall_mem_cons.mpr ⟨uw16, List.forall_mem_cons.mpr ⟨uw17, fun _ h => absurd h List.not_mem_nil⟩⟩⟩⟩⟩⟩⟩⟩⟩⟩⟩⟩
theorem inUX1 : ∀ w ∈ u_ws RX1 TX1 10, w ∈ wsU := List.forall_mem_cons.mpr ⟨uw19, List.forall_mem_cons.mpr ⟨uw20, List.forall_mem_cons.mpr ⟨uw21, List.forall_mem_cons.mpr ⟨uw22, List.forall_mem_cons.mpr ⟨uw23, List.forall_mem_cons.mpr ⟨uw24, List.forall_mem_cons.mpr ⟨uw25, List.forall_mem_cons.mpr ⟨uw26, List.forall_mem_cons.mpr ⟨uw27, List.forall_mem_cons.mpr ⟨uw28, fun _ h => absurd h List.not_mem_nil⟩⟩⟩⟩⟩⟩⟩⟩⟩⟩
theorem inUX3 : ∀ w ∈ u_ws RX3 TX3 3, w ∈ wsU := List.forall_mem_cons.mpr ⟨uw35, List.forall_mem_cons.mpr ⟨uw36, List.forall_mem_cons.mpr ⟨uw37, fun _ h => absurd h List.not_mem_nil⟩⟩⟩
theorem inUX0 : ∀ w ∈ u_ws RX0 TX0 2, w ∈ wsU := List.forall_mem_cons.mpr ⟨uw42, List.forall_mem_cons.mpr ⟨uw43, fun _ h => absurd h List.not_mem_nil⟩⟩
theorem inUX2 : ∀ w ∈ u_ws RX2 TX2 2, w ∈ wsU := List.forall_mem_cons.mpr ⟨uw52, List.forall_mem_cons.mpr ⟨uw53, fun _ h => absurd h List.not_mem_nil⟩⟩
theorem inUX7 : ∀ w ∈ u_ws RX7 TX7 7, w ∈ wsU := List.forall_mem_cons.mpr ⟨uw77, List.forall_mem_cons.mpr ⟨uw78, List.forall_mem_cons.mpr ⟨uw79, List.forall_mem_cons.mpr ⟨uw80, List.forall_mem_cons.mpr ⟨uw81, List.forall_mem_cons.mpr ⟨uw82, List.forall_mem_cons.mpr ⟨uw83, fun _ h => absurd h List.not_mem_nil⟩⟩⟩⟩⟩⟩⟩
theorem inUX4 : ∀ w ∈ u_ws RX4 TX4 3, w ∈ wsU := List.forall_mem_cons.mpr ⟨uw107, List.forall_mem_cons.mpr ⟨uw108, List.forall_mem_cons.mpr ⟨uw109, fun _ h => absurd h List.not_mem_nil⟩⟩⟩
theorem inUX6 : ∀ w ∈ u_ws RX6 TX6 1, w ∈ wsU := List.forall_mem_cons.mpr ⟨uw258, fun _ h => absurd h List.not_mem_nil⟩
theorem inUX5 : ∀ w ∈ u_ws RX5 TX5 3, w ∈ wsU := List.forall_mem_cons.mpr ⟨uw261, List.forall_mem_cons.mpr ⟨uw262, List.forall_mem_cons.mpr ⟨uw263, fun _ h => absurd h List.not_mem_nil⟩⟩⟩
theorem inUX9 : ∀ w ∈ u_ws RX9 TX9 27, w ∈ wsU := List.forall_mem_cons.mpr ⟨uw311, List.forall_mem_cons.mpr ⟨uw312, List.forall_mem_cons.mpr ⟨uw313, List.forall_mem_cons.mpr ⟨uw314, List.forall_mem_cons.mpr ⟨uw315, List.forall_mem_cons.mpr ⟨uw316, List.forall_mem_cons.mpr ⟨uw317, List.forall_mem_cons.mpr ⟨uw318, List.forall_mem_cons.mpr ⟨uw319, List.forall_mem_cons.mpr ⟨uw320, List.forall_mem_cons.mpr ⟨uw321, List.forall_mem_cons.mpr ⟨uw322, List.forall_mem_cons.mpr ⟨uw323, List.forall_mem_cons.mpr ⟨uw324, List.forall_mem_cons.mpr ⟨uw325, List.forall_mem_cons.mpr ⟨uw326, List.forall_mem_cons.mpr ⟨uw327, List.forall_mem_cons.mpr ⟨uw328, List.forall_mem_cons.mpr ⟨uw329, List.forall_mem_cons.mpr ⟨uw330, List.forall_mem_cons.mpr ⟨uw331, List.forall_mem_cons.mpr ⟨uw332, List.forall_mem_cons.mpr ⟨uw333, List.forall_mem_cons.mpr ⟨uw334, List.forall_mem_cons.mpr ⟨uw335, List.forall_mem_cons.mpr ⟨uw336, List.forall_mem_cons.mpr ⟨uw337, fun _ h => absurd h List.not_mem_nil⟩⟩⟩⟩⟩⟩⟩⟩⟩⟩⟩⟩⟩⟩⟩⟩⟩⟩⟩⟩⟩⟩⟩⟩⟩⟩⟩
theorem ks_X8_91 : xWS RX8 91 yX8_isWithin cX8_isWithin 3 (some .boolean) 3 := ⟨⟨uw0, uw1, uw2, uw3⟩, by decide +kernel⟩
theorem kf_X8_70 : xWF RX8 70 8 11 RX8 TX8 12 := ⟨inUX8, rfl, by decide, uw5⟩
theorem kf_X1_9 : xWF RX1 9 1 0 RX1 TX1 10 := ⟨inUX1, rfl, by decide, uw18⟩
theorem kv_X1_57 : xWV RX1 57 RX1 yX1_isPlace cX1_isPlace 3 (some .boolean) 1 := ⟨⟨uw29, uw30, uw31, uw32, uw33⟩, by decide +kernel⟩
theorem kf_X3_9 : xWF RX3 9 3 0 RX3 TX3 3 := ⟨inUX3, rfl, by decide, uw34⟩
theorem kf_X1_25 : xWF RX1 25 1 4 RX1 TX1 10 := ⟨inUX1, rfl, by decide, uw38⟩
theorem kf_X1_15 : xWF RX1 15 1 1 RX1 TX1 10 := ⟨inUX1, rfl, by decide, uw39⟩
theorem kf_X0_19 : xWF RX0 19 1 0 RX1 TX1 10 := ⟨inUX1, rfl, by decide, uw40⟩
theorem kf_X0_9 : xWF RX0 9 0 0 RX0 TX0 2 := ⟨inUX0, rfl, by decide, uw41⟩
theorem kv_X0_73 : xWV RX0 73 RX0 yX0_homeOf cX0_homeOf 6 (some .int) 1 := ⟨⟨uw45, uw46, uw47, uw48, uw49⟩, by decide +kernel⟩
theorem kf_X5_22 : xWF RX5 22 1 0 RX1 TX1 10 := ⟨inUX1, rfl, by decide, uw50⟩
theorem kf_X2_7 : xWF RX2 7 2 0 RX2 TX2 2 := ⟨inUX2, rfl, by decide, uw51⟩
theorem kf_X2_13 : xWF RX2 13 2 1 RX2 TX2 2 := ⟨inUX2, rfl, by decide, uw54⟩
theorem kf_X2_17 : xWF RX2 17 1 7 RX1 TX1 10 := ⟨inUX1, rfl, by decide, uw55⟩
theorem kf_X2_23 : xWF RX2 23 3 0 RX3 TX3 3 := ⟨inUX3, rfl, by decide, uw56⟩
theorem kf_X3_15 : xWF RX3 15 3 1 RX3 TX3 3 := ⟨inUX3, rfl, by decide, uw57⟩
theorem kf_X3_19 : xWF RX3 19 3 2 RX3 TX3 3 := ⟨inUX3, rfl, by decide, uw62⟩
theorem kf_X1_19 : xWF RX1 19 1 2 RX1 TX1 10 := ⟨inUX1, rfl, by decide, uw64⟩
theorem kf_X1_22 : xWF RX1 22 1 3 RX1 TX1 10 := ⟨inUX1, rfl, by decide, uw65⟩
theorem kf_X1_31 : xWF RX1 31 1 5 RX1 TX1 10 := ⟨inUX1, rfl, by decide, uw66⟩
theorem kv_X1_53 : xWV RX1 53 RX3 yX3_become cX3_become 2 none 1 := ⟨⟨uw67, uw68, uw69, uw70, uw71⟩, by decide +kernel⟩
theorem kf_X1_35 : xWF RX1 35 1 6 RX1 TX1 10 := ⟨inUX1, rfl, by decide, uw72⟩
theorem kf_X1_38 : xWF RX1 38 1 7 RX1 TX1 10 := ⟨inUX1, rfl, by decide, uw73⟩
theorem kf_X1_41 : xWF RX1 41 1 8 RX1 TX1 10 := ⟨inUX1, rfl, by decide, uw74⟩
theorem kf_X1_44 : xWF RX1 44 1 9 RX1 TX1 10 := ⟨inUX1, rfl, by decide, uw75⟩
theorem kf_X7_9 : xWF RX7 9 7 0 RX7 TX7 7 := ⟨inUX7, rfl, by decide, uw76⟩
theorem kf_X7_25 : xWF RX7 25 7 4 RX7 TX7 7 := ⟨inUX7, rfl, by decide, uw84⟩
theorem kf_X7_22 : xWF RX7 22 7 3 RX7 TX7 7 := ⟨inUX7, rfl, by decide, uw85⟩
theorem kv_X7_142 : xWV RX7 142 RX7 yX7_kindAt cX7_kindAt 3 (some .int) 1 := ⟨⟨uw86, uw87, uw88, uw89, uw90⟩, by decide +kernel⟩
theorem kf_X7_19 : xWF RX7 19 7 2 RX7 TX7 7 := ⟨inUX7, rfl, by decide, uw91⟩
theorem kf_X7_28 : xWF RX7 28 7 5 RX7 TX7 7 := ⟨inUX7, rfl, by decide, uw92⟩
theorem kv_X7_43 : xWV RX7 43 RX7 yX7_isWord cX7_isWord 3 (some .boolean) 1 := ⟨⟨uw93, uw94, uw95, uw89, uw96⟩, by decide +kernel⟩
theorem kv_X7_34 : xWV RX7 34 RX7 yX7_step cX7_step 3 none 0 := ⟨⟨uw97, uw98, uw99, uw89, uw100⟩, by decide +kernel⟩
theorem kv_X7_37 : xWV RX7 37 RX7 yX7_takeItem cX7_takeItem 2 (some .boolean) 1 := ⟨⟨uw101, uw102, uw103, uw89, uw104⟩, by decide +kernel⟩
theorem kf_X7_15 : xWF RX7 15 7 1 RX7 TX7 7 := ⟨inUX7, rfl, by decide, uw105⟩
theorem kf_X4_9 : xWF RX4 9 4 0 RX4 TX4 3 := ⟨inUX4, rfl, by decide, uw106⟩
theorem kf_X4_15 : xWF RX4 15 4 1 RX4 TX4 3 := ⟨inUX4, rfl, by decide, uw110⟩
theorem kf_X4_18 : xWF RX4 18 4 2 RX4 TX4 3 := ⟨inUX4, rfl, by decide, uw111⟩
theorem kf_X8_29 : xWF RX8 29 8 4 RX8 TX8 12 := ⟨inUX8, rfl, by decide, uw112⟩
theorem kf_X8_12 : xWF RX8 12 8 0 RX8 TX8 12 := ⟨inUX8, rfl, by decide, uw113⟩
theorem kv_X8_146 : xWV RX8 146 RX0 yX0_measure cX0_measure 4 none 1 := ⟨⟨uw114, uw115, uw116, uw48, uw117⟩, by decide +kernel⟩
theorem kv_X8_332 : xWV RX8 332 RX0 yX0_hasLoop cX0_hasLoop 2 (some .boolean) 0 := ⟨⟨uw118, uw119, uw120, uw48, uw121⟩, by decide +kernel⟩
theorem kf_X8_75 : xWF RX8 75 1 0 RX1 TX1 10 := ⟨inUX1, rfl, by decide, uw122⟩
theorem kv_X8_84 : xWV RX8 84 RX1 yX1_addPlace cX1_addPlace 3 (some .int) 1 := ⟨⟨uw123, uw124, uw125, uw32, uw126⟩, by decide +kernel⟩
theorem kv_X8_87 : xWV RX8 87 RX1 yX1_isPlace cX1_isPlace 3 (some .boolean) 1 := ⟨⟨uw127, uw30, uw31, uw32, uw33⟩, by decide +kernel⟩
theorem kv_X8_80 : xWV RX8 80 RX8 yX8_finding cX8_finding 3 (some .int) 1 := ⟨⟨uw128, uw129, uw130, uw131, uw132⟩, by decide +kernel⟩
theorem kv_X8_99 : xWV RX8 99 RX1 yX1_areTwo cX1_areTwo 3 (some .boolean) 2 := ⟨⟨uw133, uw134, uw135, uw32, uw136⟩, by decide +kernel⟩
theorem ks_X8_155 : xWS RX8 155 yX8_isKind cX8_isKind 1 (some .boolean) 1 := ⟨⟨uw137, uw138, uw139, uw140⟩, by decide +kernel⟩
theorem kf_X8_159 : xWF RX8 159 1 5 RX1 TX1 10 := ⟨inUX1, rfl, by decide, uw141⟩
theorem kv_X8_171 : xWV RX8 171 RX3 yX3_has cX3_has 2 (some .boolean) 1 := ⟨⟨uw142, uw143, uw144, uw70, uw145⟩, by decide +kernel⟩
theorem kf_X8_229 : xWF RX8 229 1 7 RX1 TX1 10 := ⟨inUX1, rfl, by decide, uw146⟩
theorem kv_X8_150 : xWV RX8 150 RX0 yX0_loopSet cX0_loopSet 4 (some .int) 0 := ⟨⟨uw147, uw148, uw149, uw48, uw150⟩, by decide +kernel⟩
theorem kv_X8_128 : xWV RX8 128 RX8 yX8_isLooped cX8_isLooped 1 (some .boolean) 0 := ⟨⟨uw151, uw152, uw153, uw131, uw154⟩, by decide +kernel⟩
theorem kv_X8_197 : xWV RX8 197 RX0 yX0_homeOf cX0_homeOf 6 (some .int) 1 := ⟨⟨uw155, uw46, uw47, uw48, uw49⟩, by decide +kernel⟩
theorem kv_X8_263 : xWV RX8 263 RX0 yX0_leastTrip cX0_leastTrip 3 (some .int) 1 := ⟨⟨uw157, uw158, uw159, uw48, uw160⟩, by decide +kernel⟩
theorem kf_X8_46 : xWF RX8 46 8 7 RX8 TX8 12 := ⟨inUX8, rfl, by decide, uw162⟩
theorem kv_X8_209 : xWV RX8 209 RX5 yX5_climb cX5_climb 3 none 1 := ⟨⟨uw163, uw164, uw165, uw166, uw167⟩, by decide +kernel⟩
theorem kv_X8_212 : xWV RX8 212 RX5 yX5_doFit cX5_doFit 4 (some .boolean) 1 := ⟨⟨uw168, uw169, uw170, uw166, uw171⟩, by decide +kernel⟩
theorem ks_X8_226 : xWS RX8 226 yX5_mostOffPaper cX5_mostOffPaper 4 (some .int) 1 := ⟨⟨uw172, uw173, uw174, uw175⟩, by decide +kernel⟩
theorem kf_X8_53 : xWF RX8 53 8 8 RX8 TX8 12 := ⟨inUX8, rfl, by decide, uw176⟩
theorem kv_X8_238 : xWV RX8 238 RX2 yX2_learnIn cX2_learnIn 5 (some .int) 1 := ⟨⟨uw177, uw178, uw179, uw180, uw181⟩, by decide +kernel⟩
theorem kf_X8_19 : xWF RX8 19 8 2 RX8 TX8 12 := ⟨inUX8, rfl, by decide, uw182⟩
theorem kv_X8_241 : xWV RX8 241 RX1 yX1_become cX1_become 2 none 1 := ⟨⟨uw183, uw184, uw185, uw32, uw186⟩, by decide +kernel⟩
theorem kf_X8_244 : xWF RX8 244 2 0 RX2 TX2 2 := ⟨inUX2, rfl, by decide, uw187⟩
theorem kv_X8_256 : xWV RX8 256 RX1 yX1_widestWay cX1_widestWay 4 (some .int) 0 := ⟨⟨uw188, uw189, uw190, uw32, uw191⟩, by decide +kernel⟩
theorem kv_X8_272 : xWV RX8 272 RX1 yX1_hollowSet cX1_hollowSet 5 (some .int) 0 := ⟨⟨uw192, uw193, uw194, uw32, uw195⟩, by decide +kernel⟩
theorem kf_X8_60 : xWF RX8 60 8 9 RX8 TX8 12 := ⟨inUX8, rfl, by decide, uw196⟩
theorem kf_X8_275 : xWF RX8 275 7 0 RX7 TX7 7 := ⟨inUX7, rfl, by decide, uw197⟩
theorem kv_X8_282 : xWV RX8 282 RX7 yX7_tellTo cX7_tellTo 3 (some .int) 1 := ⟨⟨uw198, uw199, uw200, uw89, uw201⟩, by decide +kernel⟩
theorem kf_X8_16 : xWF RX8 16 8 1 RX8 TX8 12 := ⟨inUX8, rfl, by decide, uw202⟩
theorem kf_X8_22 : xWF RX8 22 8 3 RX8 TX8 12 := ⟨inUX8, rfl, by decide, uw203⟩
theorem kv_X8_253 : xWV RX8 253 RX1 yX1_allBetweenEnds cX1_allBetweenEnds 3 (some .int) 0 := ⟨⟨uw204, uw205, uw206, uw32, uw207⟩, by decide +kernel⟩
theorem kv_X8_250 : xWV RX8 250 RX1 yX1_countUnknown cX1_countUnknown 3 (some .int) 0 := ⟨⟨uw208, uw209, uw210, uw32, uw211⟩, by decide +kernel⟩
theorem kv_X8_247 : xWV RX8 247 RX1 yX1_countWays cX1_countWays 3 (some .int) 0 := ⟨⟨uw212, uw213, uw214, uw32, uw215⟩, by decide +kernel⟩
theorem kv_X8_278 : xWV RX8 278 RX7 yX7_addByte cX7_addByte 2 none 1 := ⟨⟨uw216, uw217, uw218, uw89, uw219⟩, by decide +kernel⟩
theorem ks_X8_285 : xWS RX8 285 yX8_isSheet cX8_isSheet 1 (some .boolean) 1 := ⟨⟨uw220, uw221, uw222, uw223⟩, by decide +kernel⟩
theorem kf_X8_66 : xWF RX8 66 8 10 RX8 TX8 12 := ⟨inUX8, rfl, by decide, uw224⟩
theorem kv_X8_289 : xWV RX8 289 RX4 yX4_begin cX4_begin 4 none 2 := ⟨⟨uw225, uw226, uw227, uw228, uw229⟩, by decide +kernel⟩
theorem kf_X8_293 : xWF RX8 293 4 1 RX4 TX4 3 := ⟨inUX4, rfl, by decide, uw230⟩
theorem kv_X8_294 : xWV RX8 294 RX4 yX4_isMissing cX4_isMissing 1 (some .boolean) 0 := ⟨⟨uw232, uw233, uw234, uw228, uw235⟩, by decide +kernel⟩
theorem kf_X8_326 : xWF RX8 326 3 0 RX3 TX3 3 := ⟨inUX3, rfl, by decide, uw237⟩
theorem kv_X8_329 : xWV RX8 329 RX1 yX1_allErrands cX1_allErrands 3 (some .int) 0 := ⟨⟨uw238, uw239, uw240, uw32, uw241⟩, by decide +kernel⟩
theorem ki_X1_30 : (Cond.code yX3_init cX3_init 1 none ∈ wsU ∧ Cond.instanceMethod yX3_init ∈ wsU ∧ Cond.initialized yX3_init.cls ∈ wsU) ∧ (yX3_init.name = "<init>" ∧ yX3_init.cls ≠ "java/lang/invoke/MethodHandle" ∧ yX3_init.cls ≠ "java/lang/invoke/VarHandle" ∧ (parseMethodDescriptor yX3_init.desc).map (fun d => d.parameters.length) = some 0) ∧ Cond.methodLinkNest RX1 30 yX3_init RX8 ∈ xNest := ⟨⟨uw253, uw251, uw252⟩, by decide +kernel, by decide +kernel⟩
theorem kf_X0_15 : xWF RX0 15 0 1 RX0 TX0 2 := ⟨inUX0, rfl, by decide, uw255⟩
theorem kf_X6_9 : xWF RX6 9 6 0 RX6 TX6 1 := ⟨inUX6, rfl, by decide, uw257⟩
theorem kf_X5_9 : xWF RX5 9 5 0 RX5 TX5 3 := ⟨inUX5, rfl, by decide, uw260⟩
theorem kf_X5_15 : xWF RX5 15 5 1 RX5 TX5 3 := ⟨inUX5, rfl, by decide, uw265⟩
theorem kf_X5_19 : xWF RX5 19 5 2 RX5 TX5 3 := ⟨inUX5, rfl, by decide, uw266⟩
theorem kf_X7_31 : xWF RX7 31 7 6 RX7 TX7 7 := ⟨inUX7, rfl, by decide, uw269⟩
theorem ki_X8_11 : (Cond.code yX1_init cX1_init 1 none ∈ wsU ∧ Cond.instanceMethod yX1_init ∈ wsU ∧ Cond.initialized yX1_init.cls ∈ wsU) ∧ (yX1_init.name = "<init>" ∧ yX1_init.cls ≠ "java/lang/invoke/MethodHandle" ∧ yX1_init.cls ≠ "java/lang/invoke/VarHandle" ∧ (parseMethodDescriptor yX1_init.desc).map (fun d => d.parameters.length) = some 0) ∧ Cond.methodLinkNest RX8 11 yX1_init RX8 ∈ xNest := ⟨⟨uw275, uw273, uw274⟩, by decide +kernel, by decide +kernel⟩
theorem ki_X8_28 : (Cond.code yX0_init cX0_init 1 none ∈ wsU ∧ Cond.instanceMethod yX0_init ∈ wsU ∧ Cond.initialized yX0_init.cls ∈ wsU) ∧ (yX0_init.name = "<init>" ∧ yX0_init.cls ≠ "java/lang/invoke/MethodHandle" ∧ yX0_init.cls ≠ "java/lang/invoke/VarHandle" ∧ (parseMethodDescriptor yX0_init.desc).map (fun d => d.parameters.length) = some 0) ∧ Cond.methodLinkNest RX8 28 yX0_init RX8 ∈ xNest := ⟨⟨uw280, uw278, uw279⟩, by decide +kernel, by decide +kernel⟩
theorem kf_X8_33 : xWF RX8 33 8 5 RX8 TX8 12 := ⟨inUX8, rfl, by decide, uw281⟩
theorem ki_X8_38 : (Cond.code yX6_init cX6_init 1 none ∈ wsU ∧ Cond.instanceMethod yX6_init ∈ wsU ∧ Cond.initialized yX6_init.cls ∈ wsU) ∧ (yX6_init.name = "<init>" ∧ yX6_init.cls ≠ "java/lang/invoke/MethodHandle" ∧ yX6_init.cls ≠ "java/lang/invoke/VarHandle" ∧ (parseMethodDescriptor yX6_init.desc).map (fun d => d.parameters.length) = some 0) ∧ Cond.methodLinkNest RX8 38 yX6_init RX8 ∈ xNest := ⟨⟨uw287, uw285, uw286⟩, by decide +kernel, by decide +kernel⟩
theorem kf_X8_39 : xWF RX8 39 8 6 RX8 TX8 12 := ⟨inUX8, rfl, by decide, uw288⟩
theorem ki_X8_45 : (Cond.code yX5_init cX5_init 1 none ∈ wsU ∧ Cond.instanceMethod yX5_init ∈ wsU ∧ Cond.initialized yX5_init.cls ∈ wsU) ∧ (yX5_init.name = "<init>" ∧ yX5_init.cls ≠ "java/lang/invoke/MethodHandle" ∧ yX5_init.cls ≠ "java/lang/invoke/VarHandle" ∧ (parseMethodDescriptor yX5_init.desc).map (fun d => d.parameters.length) = some 0) ∧ Cond.methodLinkNest RX8 45 yX5_init RX8 ∈ xNest := ⟨⟨uw293, uw291, uw292⟩, by decide +kernel, by decide +kernel⟩
theorem ki_X8_52 : (Cond.code yX2_init cX2_init 1 none ∈ wsU ∧ Cond.instanceMethod yX2_init ∈ wsU ∧ Cond.initialized yX2_init.cls ∈ wsU) ∧ (yX2_init.name = "<init>" ∧ yX2_init.cls ≠ "java/lang/invoke/MethodHandle" ∧ yX2_init.cls ≠ "java/lang/invoke/VarHandle" ∧ (parseMethodDescriptor yX2_init.desc).map (fun d => d.parameters.length) = some 0) ∧ Cond.methodLinkNest RX8 52 yX2_init RX8 ∈ xNest := ⟨⟨uw298, uw296, uw297⟩, by decide +kernel, by decide +kernel⟩
theorem ki_X8_59 : (Cond.code yX7_init cX7_init 1 none ∈ wsU ∧ Cond.instanceMethod yX7_init ∈ wsU ∧ Cond.initialized yX7_init.cls ∈ wsU) ∧ (yX7_init.name = "<init>" ∧ yX7_init.cls ≠ "java/lang/invoke/MethodHandle" ∧ yX7_init.cls ≠ "java/lang/invoke/VarHandle" ∧ (parseMethodDescriptor yX7_init.desc).map (fun d => d.parameters.length) = some 0) ∧ Cond.methodLinkNest RX8 59 yX7_init RX8 ∈ xNest := ⟨⟨uw303, uw301, uw302⟩, by decide +kernel, by decide +kernel⟩
theorem ki_X8_74 : (Cond.code yX4_init cX4_init 1 none ∈ wsU ∧ Cond.instanceMethod yX4_init ∈ wsU ∧ Cond.initialized yX4_init.cls ∈ wsU) ∧ (yX4_init.name = "<init>" ∧ yX4_init.cls ≠ "java/lang/invoke/MethodHandle" ∧ yX4_init.cls ≠ "java/lang/invoke/VarHandle" ∧ (parseMethodDescriptor yX4_init.desc).map (fun d => d.parameters.length) = some 0) ∧ Cond.methodLinkNest RX8 74 yX4_init RX8 ∈ xNest := ⟨⟨uw308, uw306, uw307⟩, by decide +kernel, by decide +kernel⟩
theorem kf_X9_7 : xWF RX9 7 9 0 RX9 TX9 27 := ⟨inUX9, rfl, by decide, uw310⟩
theorem kf_X9_13 : xWF RX9 13 9 1 RX9 TX9 27 := ⟨inUX9, rfl, by decide, uw338⟩
theorem kf_X9_16 : xWF RX9 16 9 2 RX9 TX9 27 := ⟨inUX9, rfl, by decide, uw339⟩
theorem kf_X9_19 : xWF RX9 19 9 3 RX9 TX9 27 := ⟨inUX9, rfl, by decide, uw340⟩
theorem kf_X9_22 : xWF RX9 22 9 5 RX9 TX9 27 := ⟨inUX9, rfl, by decide, uw341⟩
theorem kf_X9_25 : xWF RX9 25 9 6 RX9 TX9 27 := ⟨inUX9, rfl, by decide, uw342⟩
theorem kf_X9_28 : xWF RX9 28 9 10 RX9 TX9 27 := ⟨inUX9, rfl, by decide, uw343⟩
theorem kf_X9_31 : xWF RX9 31 9 11 RX9 TX9 27 := ⟨inUX9, rfl, by decide, uw344⟩
theorem kf_X9_34 : xWF RX9 34 9 12 RX9 TX9 27 := ⟨inUX9, rfl, by decide, uw345⟩
theorem kf_X9_37 : xWF RX9 37 9 16 RX9 TX9 27 := ⟨inUX9, rfl, by decide, uw346⟩
theorem kf_X9_40 : xWF RX9 40 9 22 RX9 TX9 27 := ⟨inUX9, rfl, by decide, uw347⟩
theorem kf_X9_43 : xWF RX9 43 9 23 RX9 TX9 27 := ⟨inUX9, rfl, by decide, uw348⟩
theorem kf_X9_46 : xWF RX9 46 9 24 RX9 TX9 27 := ⟨inUX9, rfl, by decide, uw349⟩
theorem kf_X9_49 : xWF RX9 49 9 25 RX9 TX9 27 := ⟨inUX9, rfl, by decide, uw350⟩
theorem kf_X9_53 : xWF RX9 53 9 26 RX9 TX9 27 := ⟨inUX9, rfl, by decide, uw351⟩
theorem ks_X9_57 : xWS RX9 57 yX9_in cX9_in 6 (some .boolean) 3 := ⟨⟨uw353, uw354, uw355, uw356⟩, by decide +kernel⟩
theorem kv_X9_61 : xWV RX9 61 RX9 yX9_isPlace cX9_isPlace 2 (some .boolean) 1 := ⟨⟨uw357, uw358, uw359, uw360, uw361⟩, by decide +kernel⟩
theorem ks_X9_305 : xWS RX9 305 yX9_isOne cX9_isOne 1 (some .boolean) 1 := ⟨⟨uw363, uw364, uw365, uw366⟩, by decide +kernel⟩
theorem kf_X9_109 : xWF RX9 109 9 7 RX9 TX9 27 := ⟨inUX9, rfl, by decide, uw368⟩
theorem kf_X9_180 : xWF RX9 180 9 13 RX9 TX9 27 := ⟨inUX9, rfl, by decide, uw369⟩
theorem kv_X9_171 : xWV RX9 171 RX9 yX9_home cX9_home 5 (some .int) 0 := ⟨⟨uw371, uw372, uw373, uw360, uw374⟩, by decide +kernel⟩
theorem kf_X9_208 : xWF RX9 208 9 15 RX9 TX9 27 := ⟨inUX9, rfl, by decide, uw375⟩
theorem kf_X9_205 : xWF RX9 205 9 14 RX9 TX9 27 := ⟨inUX9, rfl, by decide, uw376⟩
theorem kf_X9_240 : xWF RX9 240 9 17 RX9 TX9 27 := ⟨inUX9, rfl, by decide, uw377⟩
theorem kf_X9_251 : xWF RX9 251 9 19 RX9 TX9 27 := ⟨inUX9, rfl, by decide, uw382⟩
theorem kf_X9_254 : xWF RX9 254 9 18 RX9 TX9 27 := ⟨inUX9, rfl, by decide, uw383⟩
theorem kv_X9_257 : xWV RX9 257 RX9 yX9_byteAt cX9_byteAt 2 (some .int) 1 := ⟨⟨uw384, uw385, uw386, uw360, uw387⟩, by decide +kernel⟩
theorem ks_X9_260 : xWS RX9 260 yX9_isLetter cX9_isLetter 1 (some .boolean) 1 := ⟨⟨uw388, uw389, uw390, uw391⟩, by decide +kernel⟩
theorem ks_X9_263 : xWS RX9 263 yX9_isDigit cX9_isDigit 1 (some .boolean) 1 := ⟨⟨uw392, uw393, uw394, uw395⟩, by decide +kernel⟩
theorem kf_X9_266 : xWF RX9 266 9 21 RX9 TX9 27 := ⟨inUX9, rfl, by decide, uw396⟩
theorem kv_X9_290 : xWV RX9 290 RX9 yX9_isWord cX9_isWord 9 (some .boolean) 7 := ⟨⟨uw397, uw398, uw399, uw360, uw400⟩, by decide +kernel⟩
theorem kv_X9_278 : xWV RX9 278 RX9 yX9_needs cX9_needs 2 none 1 := ⟨⟨uw401, uw402, uw403, uw360, uw404⟩, by decide +kernel⟩
theorem kv_X9_74 : xWV RX9 74 RX9 yX9_newPlace cX9_newPlace 1 (some .int) 0 := ⟨⟨uw405, uw406, uw407, uw360, uw408⟩, by decide +kernel⟩
theorem kv_X9_70 : xWV RX9 70 RX9 yX9_finds cX9_finds 2 (some .int) 1 := ⟨⟨uw409, uw410, uw411, uw360, uw412⟩, by decide +kernel⟩
theorem kv_X9_80 : xWV RX9 80 RX9 yX9_areTwo cX9_areTwo 3 (some .boolean) 2 := ⟨⟨uw413, uw414, uw415, uw360, uw416⟩, by decide +kernel⟩
theorem kv_X9_123 : xWV RX9 123 RX9 yX9_isRound cX9_isRound 2 (some .boolean) 1 := ⟨⟨uw418, uw419, uw420, uw360, uw421⟩, by decide +kernel⟩
theorem kv_X9_113 : xWV RX9 113 RX9 yX9_findFar cX9_findFar 5 none 0 := ⟨⟨uw422, uw423, uw424, uw360, uw425⟩, by decide +kernel⟩
theorem kv_X9_186 : xWV RX9 186 RX9 yX9_findHeights cX9_findHeights 4 none 0 := ⟨⟨uw427, uw428, uw429, uw360, uw430⟩, by decide +kernel⟩
theorem kv_X9_214 : xWV RX9 214 RX9 yX9_learning cX9_learning 4 (some .int) 0 := ⟨⟨uw431, uw432, uw433, uw360, uw434⟩, by decide +kernel⟩
theorem kv_X9_217 : xWV RX9 217 RX9 yX9_puts cX9_puts 2 none 0 := ⟨⟨uw435, uw436, uw437, uw360, uw438⟩, by decide +kernel⟩
theorem kv_X9_220 : xWV RX9 220 RX9 yX9_putsBack cX9_putsBack 2 none 0 := ⟨⟨uw439, uw440, uw441, uw360, uw442⟩, by decide +kernel⟩
theorem kv_X9_223 : xWV RX9 223 RX9 yX9_between cX9_between 2 (some .int) 1 := ⟨⟨uw443, uw444, uw445, uw360, uw446⟩, by decide +kernel⟩
theorem kv_X9_226 : xWV RX9 226 RX9 yX9_tripOfHome cX9_tripOfHome 2 (some .int) 0 := ⟨⟨uw447, uw448, uw449, uw360, uw450⟩, by decide +kernel⟩
theorem kv_X9_269 : xWV RX9 269 RX9 yX9_next cX9_next 3 none 0 := ⟨⟨uw451, uw452, uw453, uw360, uw454⟩, by decide +kernel⟩
theorem kv_X9_300 : xWV RX9 300 RX9 yX9_item cX9_item 2 none 0 := ⟨⟨uw455, uw456, uw457, uw360, uw458⟩, by decide +kernel⟩
theorem kf_X9_317 : xWF RX9 317 9 4 RX9 TX9 27 := ⟨inUX9, rfl, by decide, uw459⟩
theorem kv_X9_310 : xWV RX9 310 RX9 yX9_wrong cX9_wrong 2 (some .int) 1 := ⟨⟨uw462, uw463, uw464, uw360, uw465⟩, by decide +kernel⟩
theorem kv_X9_320 : xWV RX9 320 RX9 yX9_known cX9_known 7 (some .int) 1 := ⟨⟨uw467, uw468, uw469, uw360, uw470⟩, by decide +kernel⟩
theorem kv_L_13 : xWV RL 13 RX8 yX8_place cX8_place 1 (some .int) 0 := ⟨⟨uw472, uw473, uw474, uw131, uw475⟩, by decide +kernel⟩
theorem kv_L_17 : xWV RL 17 RX9 yX9_place cX9_place 1 (some .int) 0 := ⟨⟨uw476, uw477, uw478, uw360, uw479⟩, by decide +kernel⟩
theorem kv_L_18 : xWV RL 18 RX8 yX8_errands cX8_errands 4 (some .int) 2 := ⟨⟨uw480, uw481, uw482, uw131, uw483⟩, by decide +kernel⟩
theorem kv_L_22 : xWV RL 22 RX9 yX9_errands cX9_errands 4 (some .int) 2 := ⟨⟨uw484, uw485, uw486, uw360, uw487⟩, by decide +kernel⟩
theorem kv_L_23 : xWV RL 23 RX8 yX8_way cX8_way 6 (some .int) 4 := ⟨⟨uw488, uw489, uw490, uw131, uw491⟩, by decide +kernel⟩
theorem kv_L_27 : xWV RL 27 RX9 yX9_way cX9_way 5 (some .int) 4 := ⟨⟨uw492, uw493, uw494, uw360, uw495⟩, by decide +kernel⟩
theorem kv_L_28 : xWV RL 28 RX8 yX8_wayOf cX8_wayOf 4 (some .int) 3 := ⟨⟨uw496, uw497, uw498, uw131, uw499⟩, by decide +kernel⟩
theorem kv_L_32 : xWV RL 32 RX9 yX9_wayOf cX9_wayOf 5 (some .int) 3 := ⟨⟨uw500, uw501, uw502, uw360, uw503⟩, by decide +kernel⟩
theorem kv_L_33 : xWV RL 33 RX8 yX8_shut cX8_shut 5 (some .int) 3 := ⟨⟨uw504, uw505, uw506, uw131, uw507⟩, by decide +kernel⟩
theorem kv_L_37 : xWV RL 37 RX9 yX9_shut cX9_shut 5 (some .int) 3 := ⟨⟨uw508, uw509, uw510, uw360, uw511⟩, by decide +kernel⟩
theorem kv_L_38 : xWV RL 38 RX8 yX8_far cX8_far 3 (some .int) 2 := ⟨⟨uw512, uw513, uw514, uw131, uw515⟩, by decide +kernel⟩
theorem kv_L_41 : xWV RL 41 RX9 yX9_far cX9_far 3 (some .int) 2 := ⟨⟨uw516, uw517, uw518, uw360, uw519⟩, by decide +kernel⟩
theorem kv_L_42 : xWV RL 42 RX8 yX8_by cX8_by 5 (some .int) 3 := ⟨⟨uw520, uw521, uw522, uw131, uw523⟩, by decide +kernel⟩
theorem kv_L_45 : xWV RL 45 RX9 yX9_by cX9_by 10 (some .int) 3 := ⟨⟨uw524, uw525, uw526, uw360, uw527⟩, by decide +kernel⟩
theorem kv_L_46 : xWV RL 46 RX8 yX8_loops cX8_loops 1 (some .int) 0 := ⟨⟨uw528, uw529, uw530, uw131, uw531⟩, by decide +kernel⟩
theorem kv_L_49 : xWV RL 49 RX9 yX9_loops cX9_loops 5 (some .int) 0 := ⟨⟨uw532, uw533, uw534, uw360, uw535⟩, by decide +kernel⟩
theorem kv_L_50 : xWV RL 50 RX8 yX8_longer cX8_longer 5 (some .int) 2 := ⟨⟨uw536, uw537, uw538, uw131, uw539⟩, by decide +kernel⟩
theorem kv_L_53 : xWV RL 53 RX9 yX9_longer cX9_longer 5 (some .int) 2 := ⟨⟨uw540, uw541, uw542, uw360, uw543⟩, by decide +kernel⟩
theorem kv_L_54 : xWV RL 54 RX8 yX8_round cX8_round 3 (some .int) 2 := ⟨⟨uw544, uw545, uw546, uw131, uw547⟩, by decide +kernel⟩
theorem kv_L_57 : xWV RL 57 RX9 yX9_round cX9_round 4 (some .int) 2 := ⟨⟨uw548, uw549, uw550, uw360, uw551⟩, by decide +kernel⟩
theorem kv_L_58 : xWV RL 58 RX8 yX8_over cX8_over 3 (some .int) 2 := ⟨⟨uw552, uw553, uw554, uw131, uw555⟩, by decide +kernel⟩
theorem kv_L_61 : xWV RL 61 RX9 yX9_over cX9_over 4 (some .int) 2 := ⟨⟨uw556, uw557, uw558, uw360, uw559⟩, by decide +kernel⟩
theorem kv_L_62 : xWV RL 62 RX8 yX8_sum cX8_sum 2 (some .int) 1 := ⟨⟨uw560, uw561, uw562, uw131, uw563⟩, by decide +kernel⟩
theorem kv_L_66 : xWV RL 66 RX9 yX9_sum cX9_sum 3 (some .int) 1 := ⟨⟨uw564, uw565, uw566, uw360, uw567⟩, by decide +kernel⟩
theorem kv_L_67 : xWV RL 67 RX8 yX8_roundOf cX8_roundOf 4 (some .int) 2 := ⟨⟨uw568, uw569, uw570, uw131, uw571⟩, by decide +kernel⟩
theorem kv_L_70 : xWV RL 70 RX9 yX9_roundOf cX9_roundOf 3 (some .int) 2 := ⟨⟨uw572, uw573, uw574, uw360, uw575⟩, by decide +kernel⟩
theorem kv_L_71 : xWV RL 71 RX8 yX8_as cX8_as 3 (some .int) 2 := ⟨⟨uw576, uw577, uw578, uw131, uw579⟩, by decide +kernel⟩
theorem kv_L_74 : xWV RL 74 RX9 yX9_as cX9_as 5 (some .int) 2 := ⟨⟨uw580, uw581, uw582, uw360, uw583⟩, by decide +kernel⟩
theorem kv_L_75 : xWV RL 75 RX8 yX8_live cX8_live 2 (some .int) 0 := ⟨⟨uw584, uw585, uw586, uw131, uw587⟩, by decide +kernel⟩
theorem kv_L_78 : xWV RL 78 RX9 yX9_live cX9_live 2 (some .int) 0 := ⟨⟨uw588, uw589, uw590, uw360, uw591⟩, by decide +kernel⟩
theorem kv_L_79 : xWV RL 79 RX8 yX8_trip cX8_trip 2 (some .int) 1 := ⟨⟨uw592, uw593, uw594, uw131, uw595⟩, by decide +kernel⟩
theorem kv_L_82 : xWV RL 82 RX9 yX9_trip cX9_trip 3 (some .int) 1 := ⟨⟨uw596, uw597, uw598, uw360, uw599⟩, by decide +kernel⟩
theorem kv_L_83 : xWV RL 83 RX8 yX8_meet cX8_meet 5 (some .int) 3 := ⟨⟨uw600, uw601, uw602, uw131, uw603⟩, by decide +kernel⟩
theorem kv_L_86 : xWV RL 86 RX9 yX9_meet cX9_meet 8 (some .int) 3 := ⟨⟨uw604, uw605, uw606, uw360, uw607⟩, by decide +kernel⟩
theorem kv_L_87 : xWV RL 87 RX8 yX8_fit cX8_fit 1 (some .int) 0 := ⟨⟨uw608, uw609, uw610, uw131, uw611⟩, by decide +kernel⟩
theorem kv_L_90 : xWV RL 90 RX9 yX9_fit cX9_fit 1 (some .int) 0 := ⟨⟨uw612, uw613, uw614, uw360, uw615⟩, by decide +kernel⟩
theorem kv_L_91 : xWV RL 91 RX8 yX8_height cX8_height 2 (some .int) 1 := ⟨⟨uw616, uw617, uw618, uw131, uw619⟩, by decide +kernel⟩
theorem kv_L_94 : xWV RL 94 RX9 yX9_height cX9_height 2 (some .int) 1 := ⟨⟨uw620, uw621, uw622, uw360, uw623⟩, by decide +kernel⟩
theorem kv_L_95 : xWV RL 95 RX8 yX8_paper cX8_paper 3 (some .int) 2 := ⟨⟨uw624, uw625, uw626, uw131, uw627⟩, by decide +kernel⟩
theorem kv_L_98 : xWV RL 98 RX9 yX9_paper cX9_paper 3 (some .int) 2 := ⟨⟨uw628, uw629, uw630, uw360, uw631⟩, by decide +kernel⟩
theorem kv_L_99 : xWV RL 99 RX8 yX8_worst cX8_worst 2 (some .int) 0 := ⟨⟨uw632, uw633, uw634, uw131, uw635⟩, by decide +kernel⟩
theorem kv_L_102 : xWV RL 102 RX9 yX9_worst cX9_worst 5 (some .int) 0 := ⟨⟨uw636, uw637, uw638, uw360, uw639⟩, by decide +kernel⟩
theorem kv_L_103 : xWV RL 103 RX8 yX8_walk cX8_walk 6 (some .int) 4 := ⟨⟨uw640, uw641, uw642, uw131, uw643⟩, by decide +kernel⟩
theorem kv_L_106 : xWV RL 106 RX9 yX9_walk cX9_walk 5 (some .int) 4 := ⟨⟨uw644, uw645, uw646, uw360, uw647⟩, by decide +kernel⟩
theorem kv_L_107 : xWV RL 107 RX8 yX8_on cX8_on 3 (some .int) 2 := ⟨⟨uw648, uw649, uw650, uw131, uw651⟩, by decide +kernel⟩
theorem kv_L_110 : xWV RL 110 RX9 yX9_on cX9_on 4 (some .int) 2 := ⟨⟨uw652, uw653, uw654, uw360, uw655⟩, by decide +kernel⟩
theorem kv_L_111 : xWV RL 111 RX8 yX8_learn cX8_learn 1 (some .int) 0 := ⟨⟨uw656, uw657, uw658, uw131, uw659⟩, by decide +kernel⟩
theorem kv_L_114 : xWV RL 114 RX9 yX9_learn cX9_learn 1 (some .int) 0 := ⟨⟨uw660, uw661, uw662, uw360, uw663⟩, by decide +kernel⟩
theorem kv_L_115 : xWV RL 115 RX8 yX8_lies cX8_lies 1 (some .int) 0 := ⟨⟨uw664, uw665, uw666, uw131, uw667⟩, by decide +kernel⟩
theorem kv_L_118 : xWV RL 118 RX9 yX9_lies cX9_lies 2 (some .int) 0 := ⟨⟨uw668, uw669, uw670, uw360, uw671⟩, by decide +kernel⟩
theorem kv_L_119 : xWV RL 119 RX8 yX8_known cX8_known 2 (some .int) 1 := ⟨⟨uw672, uw673, uw674, uw131, uw675⟩, by decide +kernel⟩
theorem kv_L_122 : xWV RL 122 RX9 yX9_known cX9_known 7 (some .int) 1 := ⟨⟨uw676, uw468, uw469, uw360, uw470⟩, by decide +kernel⟩
theorem kv_L_123 : xWV RL 123 RX8 yX8_ask cX8_ask 2 (some .int) 0 := ⟨⟨uw677, uw678, uw679, uw131, uw680⟩, by decide +kernel⟩
theorem kv_L_126 : xWV RL 126 RX9 yX9_ask cX9_ask 4 (some .int) 0 := ⟨⟨uw681, uw682, uw683, uw360, uw684⟩, by decide +kernel⟩
theorem kv_L_127 : xWV RL 127 RX8 yX8_saves cX8_saves 4 (some .int) 2 := ⟨⟨uw685, uw686, uw687, uw131, uw688⟩, by decide +kernel⟩
theorem kv_L_130 : xWV RL 130 RX9 yX9_saves cX9_saves 5 (some .int) 2 := ⟨⟨uw689, uw690, uw691, uw360, uw692⟩, by decide +kernel⟩
theorem kv_L_131 : xWV RL 131 RX8 yX8_mend cX8_mend 3 (some .int) 0 := ⟨⟨uw693, uw694, uw695, uw131, uw696⟩, by decide +kernel⟩
theorem kv_L_134 : xWV RL 134 RX9 yX9_mend cX9_mend 7 (some .int) 0 := ⟨⟨uw697, uw698, uw699, uw360, uw700⟩, by decide +kernel⟩
theorem kv_L_135 : xWV RL 135 RX8 yX8_goes cX8_goes 4 (some .int) 2 := ⟨⟨uw701, uw702, uw703, uw131, uw704⟩, by decide +kernel⟩
theorem kv_L_138 : xWV RL 138 RX9 yX9_goes cX9_goes 5 (some .int) 2 := ⟨⟨uw705, uw706, uw707, uw360, uw708⟩, by decide +kernel⟩
theorem kv_L_139 : xWV RL 139 RX8 yX8_hollow cX8_hollow 1 (some .int) 0 := ⟨⟨uw709, uw710, uw711, uw131, uw712⟩, by decide +kernel⟩
theorem kv_L_142 : xWV RL 142 RX9 yX9_hollow cX9_hollow 5 (some .int) 0 := ⟨⟨uw713, uw714, uw715, uw360, uw716⟩, by decide +kernel⟩
theorem kv_L_143 : xWV RL 143 RX8 yX8_feed cX8_feed 4 (some .int) 2 := ⟨⟨uw717, uw718, uw719, uw131, uw720⟩, by decide +kernel⟩
theorem kv_L_146 : xWV RL 146 RX9 yX9_feed cX9_feed 4 (some .int) 2 := ⟨⟨uw721, uw722, uw723, uw360, uw724⟩, by decide +kernel⟩
theorem kv_L_147 : xWV RL 147 RX8 yX8_wipe cX8_wipe 2 (some .int) 0 := ⟨⟨uw725, uw726, uw727, uw131, uw728⟩, by decide +kernel⟩
theorem kv_L_150 : xWV RL 150 RX9 yX9_wipe cX9_wipe 2 (some .int) 0 := ⟨⟨uw729, uw730, uw731, uw360, uw732⟩, by decide +kernel⟩
theorem kv_L_151 : xWV RL 151 RX8 yX8_land cX8_land 2 (some .int) 0 := ⟨⟨uw733, uw734, uw735, uw131, uw736⟩, by decide +kernel⟩
theorem kv_L_154 : xWV RL 154 RX9 yX9_land cX9_land 2 (some .int) 0 := ⟨⟨uw737, uw738, uw739, uw360, uw740⟩, by decide +kernel⟩
theorem kv_L_155 : xWV RL 155 RX8 yX8_sheet cX8_sheet 4 (some .int) 3 := ⟨⟨uw741, uw742, uw743, uw131, uw744⟩, by decide +kernel⟩
theorem kv_L_158 : xWV RL 158 RX9 yX9_sheet cX9_sheet 5 (some .int) 3 := ⟨⟨uw745, uw746, uw747, uw360, uw748⟩, by decide +kernel⟩
theorem kv_L_161 : xWV RL 161 RX8 yX8_write cX8_write 8 (some .long) 3 := ⟨⟨uw750, uw751, uw752, uw131, uw753⟩, by decide +kernel⟩
theorem kv_L_165 : xWV RL 165 RX9 yX9_write cX9_write 8 (some .long) 3 := ⟨⟨uw754, uw755, uw756, uw360, uw757⟩, by decide +kernel⟩
theorem kv_L_166 : xWV RL 166 RX8 yX8_copy cX8_copy 8 (some .int) 5 := ⟨⟨uw758, uw759, uw760, uw131, uw761⟩, by decide +kernel⟩
theorem kv_L_170 : xWV RL 170 RX9 yX9_copy cX9_copy 7 (some .int) 5 := ⟨⟨uw762, uw763, uw764, uw360, uw765⟩, by decide +kernel⟩
theorem kv_L_171 : xWV RL 171 RX8 yX8_lays cX8_lays 3 (some .int) 2 := ⟨⟨uw766, uw767, uw768, uw131, uw769⟩, by decide +kernel⟩
theorem kv_L_174 : xWV RL 174 RX9 yX9_lays cX9_lays 9 (some .int) 2 := ⟨⟨uw770, uw771, uw772, uw360, uw773⟩, by decide +kernel⟩
theorem kv_L_175 : xWV RL 175 RX8 yX8_read cX8_read 2 (some .int) 1 := ⟨⟨uw774, uw775, uw776, uw131, uw777⟩, by decide +kernel⟩
theorem kv_L_178 : xWV RL 178 RX9 yX9_read cX9_read 9 (some .int) 1 := ⟨⟨uw778, uw779, uw780, uw360, uw781⟩, by decide +kernel⟩
theorem kv_L_179 : xWV RL 179 RX8 yX8_image cX8_image 1 (some .int) 0 := ⟨⟨uw782, uw783, uw784, uw131, uw785⟩, by decide +kernel⟩
theorem kv_L_182 : xWV RL 182 RX9 yX9_image cX9_image 2 (some .int) 0 := ⟨⟨uw786, uw787, uw788, uw360, uw789⟩, by decide +kernel⟩
theorem kv_L_183 : xWV RL 183 RX8 yX8_undo cX8_undo 1 (some .int) 0 := ⟨⟨uw790, uw791, uw792, uw131, uw793⟩, by decide +kernel⟩
theorem kv_L_186 : xWV RL 186 RX9 yX9_undo cX9_undo 2 (some .int) 0 := ⟨⟨uw794, uw795, uw796, uw360, uw797⟩, by decide +kernel⟩
theorem kv_L_187 : xWV RL 187 RX8 yX8_tear cX8_tear 2 (some .int) 0 := ⟨⟨uw798, uw799, uw800, uw131, uw801⟩, by decide +kernel⟩
theorem kv_L_190 : xWV RL 190 RX9 yX9_tear cX9_tear 2 (some .int) 0 := ⟨⟨uw802, uw803, uw804, uw360, uw805⟩, by decide +kernel⟩
theorem kv_L_191 : xWV RL 191 RX8 yX8_count cX8_count 2 (some .int) 1 := ⟨⟨uw806, uw807, uw808, uw131, uw809⟩, by decide +kernel⟩
theorem kv_L_194 : xWV RL 194 RX9 yX9_count cX9_count 4 (some .int) 1 := ⟨⟨uw810, uw811, uw812, uw360, uw813⟩, by decide +kernel⟩
theorem kv_L_195 : xWV RL 195 RX8 yX8_status cX8_status 4 (some .int) 1 := ⟨⟨uw814, uw815, uw816, uw131, uw817⟩, by decide +kernel⟩
theorem kv_L_198 : xWV RL 198 RX9 yX9_status cX9_status 4 (some .int) 1 := ⟨⟨uw818, uw819, uw820, uw360, uw821⟩, by decide +kernel⟩
theorem ki_L_9 : xWI RL 9 yX8_init cX8_init 2 0 := ⟨⟨uw827, uw824, uw825, uw826⟩, by decide +kernel⟩
theorem ki_L_12 : xWI RL 12 yX9_init cX9_init 1 0 := ⟨⟨uw833, uw830, uw831, uw832⟩, by decide +kernel⟩
