theorem uw0 : Cond.methodLink RX8 91 yX8_isWithin ∈ wsU := ut2 (List.mem_of_getElem? (i := 28) (by decide +kernel)) rfl
theorem uw1 : Cond.static yX8_isWithin ∈ wsU := ut2 (List.mem_of_getElem? (i := 29) (by decide +kernel)) rfl
theorem uw2 : Cond.initialized yX8_isWithin.cls ∈ wsU := ut1 (List.mem_of_getElem? (i := 1) (by decide +kernel)) rfl
theorem uw3 : Cond.code yX8_isWithin cX8_isWithin 3 (some .boolean) ∈ wsU := ut2 (List.mem_of_getElem? (i := 30) (by decide +kernel)) rfl
theorem uw4 : Cond.constant RX8 95 (-1000000001) ∈ wsU := ut2 (List.mem_of_getElem? (i := 15) (by decide +kernel)) rfl
theorem uw5 : Cond.fieldLink RX8 70 "LongerBack" "found" "[I" ∈ wsU := ut1 (List.mem_of_getElem? (i := 220) (by decide +kernel)) rfl
theorem uw6 : Cond.laysFinal RX8 "LongerBack" "here" "LLongerBack$Land;" ∈ wsU := ut1 (List.mem_of_getElem? (i := 221) (by decide +kernel)) rfl
theorem uw7 : Cond.laysFinal RX8 "LongerBack" "kept" "LLongerBack$Land;" ∈ wsU := ut1 (List.mem_of_getElem? (i := 223) (by decide +kernel)) rfl
theorem uw8 : Cond.laysFinal RX8 "LongerBack" "draft" "LLongerBack$Land;" ∈ wsU := ut1 (List.mem_of_getElem? (i := 225) (by decide +kernel)) rfl
theorem uw9 : Cond.lays RX8 "LongerBack" "isKept" "Z" ∈ wsU := ut1 (List.mem_of_getElem? (i := 227) (by decide +kernel)) rfl
theorem uw10 : Cond.laysFinal RX8 "LongerBack" "atlas" "LLongerBack$Atlas;" ∈ wsU := ut1 (List.mem_of_getElem? (i := 229) (by decide +kernel)) rfl
theorem uw11 : Cond.laysFinal RX8 "LongerBack" "mended" "LLongerBack$Atlas;" ∈ wsU := ut1 (List.mem_of_getElem? (i := 231) (by decide +kernel)) rfl
theorem uw12 : Cond.laysFinal RX8 "LongerBack" "sums" "LLongerBack$Sums;" ∈ wsU := ut1 (List.mem_of_getElem? (i := 233) (by decide +kernel)) rfl
theorem uw13 : Cond.laysFinal RX8 "LongerBack" "slopes" "LLongerBack$Slopes;" ∈ wsU := ut1 (List.mem_of_getElem? (i := 235) (by decide +kernel)) rfl
theorem uw14 : Cond.laysFinal RX8 "LongerBack" "learner" "LLongerBack$Learner;" ∈ wsU := ut1 (List.mem_of_getElem? (i := 237) (by decide +kernel)) rfl
theorem uw15 : Cond.laysFinal RX8 "LongerBack" "text" "LLongerBack$Text;" ∈ wsU := ut1 (List.mem_of_getElem? (i := 239) (by decide +kernel)) rfl
theorem uw16 : Cond.laysFinal RX8 "LongerBack" "sheets" "[LLongerBack$Sheet;" ∈ wsU := ut2 (List.mem_of_getElem? (i := 1) (by decide +kernel)) rfl
theorem uw17 : Cond.laysFinal RX8 "LongerBack" "found" "[I" ∈ wsU := ut2 (List.mem_of_getElem? (i := 3) (by decide +kernel)) rfl
theorem uw18 : Cond.fieldLink RX1 9 "LongerBack$Land" "places" "I" ∈ wsU := ut1 (List.mem_of_getElem? (i := 54) (by decide +kernel)) rfl
theorem uw19 : Cond.lays RX1 "LongerBack$Land" "places" "I" ∈ wsU := ut1 (List.mem_of_getElem? (i := 83) (by decide +kernel)) rfl
theorem uw20 : Cond.laysFinal RX1 "LongerBack$Land" "errands" "[I" ∈ wsU := ut1 (List.mem_of_getElem? (i := 85) (by decide +kernel)) rfl
theorem uw21 : Cond.laysFinal RX1 "LongerBack$Land" "low" "[I" ∈ wsU := ut1 (List.mem_of_getElem? (i := 87) (by decide +kernel)) rfl
theorem uw22 : Cond.laysFinal RX1 "LongerBack$Land" "high" "[I" ∈ wsU := ut1 (List.mem_of_getElem? (i := 89) (by decide +kernel)) rfl
theorem uw23 : Cond.laysFinal RX1 "LongerBack$Land" "doors" "[I" ∈ wsU := ut1 (List.mem_of_getElem? (i := 91) (by decide +kernel)) rfl
theorem uw24 : Cond.laysFinal RX1 "LongerBack$Land" "rounds" "LLongerBack$Rows;" ∈ wsU := ut1 (List.mem_of_getElem? (i := 93) (by decide +kernel)) rfl
theorem uw25 : Cond.laysFinal RX1 "LongerBack$Land" "kinds" "[I" ∈ wsU := ut1 (List.mem_of_getElem? (i := 95) (by decide +kernel)) rfl
theorem uw26 : Cond.laysFinal RX1 "LongerBack$Land" "walks" "LLongerBack$Rows;" ∈ wsU := ut1 (List.mem_of_getElem? (i := 97) (by decide +kernel)) rfl
theorem uw27 : Cond.laysFinal RX1 "LongerBack$Land" "totals" "[I" ∈ wsU := ut1 (List.mem_of_getElem? (i := 99) (by decide +kernel)) rfl
theorem uw28 : Cond.laysFinal RX1 "LongerBack$Land" "slacks" "[I" ∈ wsU := ut1 (List.mem_of_getElem? (i := 101) (by decide +kernel)) rfl
theorem uw29 : Cond.methodLink RX1 57 yX1_isPlace ∈ wsU := ut2 (List.mem_of_getElem? (i := 39) (by decide +kernel)) rfl
theorem uw30 : Cond.instanceMethod yX1_isPlace ∈ wsU := ut2 (List.mem_of_getElem? (i := 25) (by decide +kernel)) rfl
theorem uw31 : Cond.selects RX1 yX1_isPlace yX1_isPlace ∈ wsU := ut2 (List.mem_of_getElem? (i := 26) (by decide +kernel)) rfl
theorem uw32 : Cond.initialized RX1 ∈ wsU := ut1 (List.mem_of_getElem? (i := 2) (by decide +kernel)) rfl
theorem uw33 : Cond.code yX1_isPlace cX1_isPlace 3 (some .boolean) ∈ wsU := ut2 (List.mem_of_getElem? (i := 27) (by decide +kernel)) rfl
theorem uw34 : Cond.fieldLink RX3 9 "LongerBack$Rows" "count" "I" ∈ wsU := ut1 (List.mem_of_getElem? (i := 37) (by decide +kernel)) rfl
theorem uw35 : Cond.lays RX3 "LongerBack$Rows" "count" "I" ∈ wsU := ut1 (List.mem_of_getElem? (i := 46) (by decide +kernel)) rfl
theorem uw36 : Cond.laysFinal RX3 "LongerBack$Rows" "lengths" "[I" ∈ wsU := ut1 (List.mem_of_getElem? (i := 48) (by decide +kernel)) rfl
theorem uw37 : Cond.laysFinal RX3 "LongerBack$Rows" "stops" "[I" ∈ wsU := ut1 (List.mem_of_getElem? (i := 50) (by decide +kernel)) rfl
theorem uw38 : Cond.fieldLink RX1 25 "LongerBack$Land" "doors" "[I" ∈ wsU := ut1 (List.mem_of_getElem? (i := 66) (by decide +kernel)) rfl
theorem uw39 : Cond.fieldLink RX1 15 "LongerBack$Land" "errands" "[I" ∈ wsU := ut1 (List.mem_of_getElem? (i := 59) (by decide +kernel)) rfl
theorem uw40 : Cond.fieldLink RX0 19 "LongerBack$Land" "places" "I" ∈ wsU := ut1 (List.mem_of_getElem? (i := 55) (by decide +kernel)) rfl
theorem uw41 : Cond.fieldLink RX0 9 "LongerBack$Atlas" "places" "I" ∈ wsU := ut1 (List.mem_of_getElem? (i := 110) (by decide +kernel)) rfl
theorem uw42 : Cond.lays RX0 "LongerBack$Atlas" "places" "I" ∈ wsU := ut1 (List.mem_of_getElem? (i := 112) (by decide +kernel)) rfl
theorem uw43 : Cond.laysFinal RX0 "LongerBack$Atlas" "lengths" "[I" ∈ wsU := ut1 (List.mem_of_getElem? (i := 114) (by decide +kernel)) rfl
theorem uw44 : Cond.constant RX0 38 1000000000 ∈ wsU := ut2 (List.mem_of_getElem? (i := 96) (by decide +kernel)) rfl
theorem uw45 : Cond.methodLink RX0 73 yX0_homeOf ∈ wsU := ut3 (List.mem_of_getElem? (i := 202) (by decide +kernel)) rfl
theorem uw46 : Cond.instanceMethod yX0_homeOf ∈ wsU := ut3 (List.mem_of_getElem? (i := 45) (by decide +kernel)) rfl
theorem uw47 : Cond.selects RX0 yX0_homeOf yX0_homeOf ∈ wsU := ut3 (List.mem_of_getElem? (i := 46) (by decide +kernel)) rfl
theorem uw48 : Cond.initialized RX0 ∈ wsU := ut1 (List.mem_of_getElem? (i := 4) (by decide +kernel)) rfl
theorem uw49 : Cond.code yX0_homeOf cX0_homeOf 6 (some .int) ∈ wsU := ut3 (List.mem_of_getElem? (i := 47) (by decide +kernel)) rfl
theorem uw50 : Cond.fieldLink RX5 22 "LongerBack$Land" "places" "I" ∈ wsU := ut1 (List.mem_of_getElem? (i := 57) (by decide +kernel)) rfl
theorem uw51 : Cond.fieldLink RX2 7 "LongerBack$Learner" "liars" "I" ∈ wsU := ut1 (List.mem_of_getElem? (i := 151) (by decide +kernel)) rfl
theorem uw52 : Cond.lays RX2 "LongerBack$Learner" "liars" "I" ∈ wsU := ut1 (List.mem_of_getElem? (i := 154) (by decide +kernel)) rfl
theorem uw53 : Cond.lays RX2 "LongerBack$Learner" "isChanged" "Z" ∈ wsU := ut1 (List.mem_of_getElem? (i := 156) (by decide +kernel)) rfl
theorem uw54 : Cond.fieldLink RX2 13 "LongerBack$Learner" "isChanged" "Z" ∈ wsU := ut1 (List.mem_of_getElem? (i := 153) (by decide +kernel)) rfl
theorem uw55 : Cond.fieldLink RX2 17 "LongerBack$Land" "walks" "LLongerBack$Rows;" ∈ wsU := ut1 (List.mem_of_getElem? (i := 74) (by decide +kernel)) rfl
theorem uw56 : Cond.fieldLink RX2 23 "LongerBack$Rows" "count" "I" ∈ wsU := ut1 (List.mem_of_getElem? (i := 38) (by decide +kernel)) rfl
theorem uw57 : Cond.fieldLink RX3 15 "LongerBack$Rows" "lengths" "[I" ∈ wsU := ut1 (List.mem_of_getElem? (i := 40) (by decide +kernel)) rfl
theorem uw58 : Cond.methodLink RX3 29 arraycopyName ∈ wsU := ut3 (List.mem_of_getElem? (i := 164) (by decide +kernel)) rfl
theorem uw59 : Cond.native arraycopyName ∈ wsU := ut3 (List.mem_of_getElem? (i := 159) (by decide +kernel)) rfl
theorem uw60 : Cond.static arraycopyName ∈ wsU := ut3 (List.mem_of_getElem? (i := 158) (by decide +kernel)) rfl
theorem uw61 : Cond.initialized "java/lang/System" ∈ wsU := ut1 (List.mem_of_getElem? (i := 12) (by decide +kernel)) rfl
theorem uw62 : Cond.fieldLink RX3 19 "LongerBack$Rows" "stops" "[I" ∈ wsU := ut1 (List.mem_of_getElem? (i := 45) (by decide +kernel)) rfl
theorem uw63 : Cond.methodLink RX1 47 arraycopyName ∈ wsU := ut3 (List.mem_of_getElem? (i := 157) (by decide +kernel)) rfl
theorem uw64 : Cond.fieldLink RX1 19 "LongerBack$Land" "low" "[I" ∈ wsU := ut1 (List.mem_of_getElem? (i := 62) (by decide +kernel)) rfl
theorem uw65 : Cond.fieldLink RX1 22 "LongerBack$Land" "high" "[I" ∈ wsU := ut1 (List.mem_of_getElem? (i := 64) (by decide +kernel)) rfl
theorem uw66 : Cond.fieldLink RX1 31 "LongerBack$Land" "rounds" "LLongerBack$Rows;" ∈ wsU := ut1 (List.mem_of_getElem? (i := 67) (by decide +kernel)) rfl
theorem uw67 : Cond.methodLink RX1 53 yX3_become ∈ wsU := ut3 (List.mem_of_getElem? (i := 160) (by decide +kernel)) rfl
theorem uw68 : Cond.instanceMethod yX3_become ∈ wsU := ut3 (List.mem_of_getElem? (i := 161) (by decide +kernel)) rfl
theorem uw69 : Cond.selects RX3 yX3_become yX3_become ∈ wsU := ut3 (List.mem_of_getElem? (i := 162) (by decide +kernel)) rfl
theorem uw70 : Cond.initialized RX3 ∈ wsU := ut1 (List.mem_of_getElem? (i := 3) (by decide +kernel)) rfl
theorem uw71 : Cond.code yX3_become cX3_become 2 none ∈ wsU := ut3 (List.mem_of_getElem? (i := 163) (by decide +kernel)) rfl
theorem uw72 : Cond.fieldLink RX1 35 "LongerBack$Land" "kinds" "[I" ∈ wsU := ut1 (List.mem_of_getElem? (i := 70) (by decide +kernel)) rfl
theorem uw73 : Cond.fieldLink RX1 38 "LongerBack$Land" "walks" "LLongerBack$Rows;" ∈ wsU := ut1 (List.mem_of_getElem? (i := 73) (by decide +kernel)) rfl
theorem uw74 : Cond.fieldLink RX1 41 "LongerBack$Land" "totals" "[I" ∈ wsU := ut1 (List.mem_of_getElem? (i := 77) (by decide +kernel)) rfl
theorem uw75 : Cond.fieldLink RX1 44 "LongerBack$Land" "slacks" "[I" ∈ wsU := ut1 (List.mem_of_getElem? (i := 80) (by decide +kernel)) rfl
theorem uw76 : Cond.fieldLink RX7 9 "LongerBack$Text" "size" "I" ∈ wsU := ut1 (List.mem_of_getElem? (i := 165) (by decide +kernel)) rfl
theorem uw77 : Cond.lays RX7 "LongerBack$Text" "size" "I" ∈ wsU := ut1 (List.mem_of_getElem? (i := 173) (by decide +kernel)) rfl
theorem uw78 : Cond.laysFinal RX7 "LongerBack$Text" "bytes" "[I" ∈ wsU := ut1 (List.mem_of_getElem? (i := 175) (by decide +kernel)) rfl
theorem uw79 : Cond.lays RX7 "LongerBack$Text" "token" "I" ∈ wsU := ut1 (List.mem_of_getElem? (i := 177) (by decide +kernel)) rfl
theorem uw80 : Cond.lays RX7 "LongerBack$Text" "start" "I" ∈ wsU := ut1 (List.mem_of_getElem? (i := 179) (by decide +kernel)) rfl
theorem uw81 : Cond.lays RX7 "LongerBack$Text" "next" "I" ∈ wsU := ut1 (List.mem_of_getElem? (i := 181) (by decide +kernel)) rfl
theorem uw82 : Cond.lays RX7 "LongerBack$Text" "value" "I" ∈ wsU := ut1 (List.mem_of_getElem? (i := 183) (by decide +kernel)) rfl
theorem uw83 : Cond.lays RX7 "LongerBack$Text" "taken" "I" ∈ wsU := ut1 (List.mem_of_getElem? (i := 185) (by decide +kernel)) rfl
theorem uw84 : Cond.fieldLink RX7 25 "LongerBack$Text" "next" "I" ∈ wsU := ut1 (List.mem_of_getElem? (i := 170) (by decide +kernel)) rfl
theorem uw85 : Cond.fieldLink RX7 22 "LongerBack$Text" "start" "I" ∈ wsU := ut1 (List.mem_of_getElem? (i := 169) (by decide +kernel)) rfl
theorem uw86 : Cond.methodLink RX7 142 yX7_kindAt ∈ wsU := ut4 (List.mem_of_getElem? (i := 18) (by decide +kernel)) rfl
theorem uw87 : Cond.instanceMethod yX7_kindAt ∈ wsU := ut4 (List.mem_of_getElem? (i := 20) (by decide +kernel)) rfl
theorem uw88 : Cond.selects RX7 yX7_kindAt yX7_kindAt ∈ wsU := us_sel (q := (yX7_kindAt, 7)) (List.mem_of_getElem? (i := 16) (by decide +kernel)) rfl
theorem uw89 : Cond.initialized RX7 ∈ wsU := ut1 (List.mem_of_getElem? (i := 8) (by decide +kernel)) rfl
theorem uw90 : Cond.code yX7_kindAt cX7_kindAt 3 (some .int) ∈ wsU := ut4 (List.mem_of_getElem? (i := 21) (by decide +kernel)) rfl
theorem uw91 : Cond.fieldLink RX7 19 "LongerBack$Text" "token" "I" ∈ wsU := ut1 (List.mem_of_getElem? (i := 168) (by decide +kernel)) rfl
theorem uw92 : Cond.fieldLink RX7 28 "LongerBack$Text" "value" "I" ∈ wsU := ut1 (List.mem_of_getElem? (i := 171) (by decide +kernel)) rfl
theorem uw93 : Cond.methodLink RX7 43 yX7_isWord ∈ wsU := ut4 (List.mem_of_getElem? (i := 28) (by decide +kernel)) rfl
theorem uw94 : Cond.instanceMethod yX7_isWord ∈ wsU := ut4 (List.mem_of_getElem? (i := 30) (by decide +kernel)) rfl
theorem uw95 : Cond.selects RX7 yX7_isWord yX7_isWord ∈ wsU := us_sel (q := (yX7_isWord, 7)) (List.mem_of_getElem? (i := 18) (by decide +kernel)) rfl
theorem uw96 : Cond.code yX7_isWord cX7_isWord 3 (some .boolean) ∈ wsU := ut4 (List.mem_of_getElem? (i := 31) (by decide +kernel)) rfl
theorem uw97 : Cond.methodLink RX7 34 yX7_step ∈ wsU := ut4 (List.mem_of_getElem? (i := 14) (by decide +kernel)) rfl
theorem uw98 : Cond.instanceMethod yX7_step ∈ wsU := ut4 (List.mem_of_getElem? (i := 16) (by decide +kernel)) rfl
theorem uw99 : Cond.selects RX7 yX7_step yX7_step ∈ wsU := us_sel (q := (yX7_step, 7)) (List.mem_of_getElem? (i := 15) (by decide +kernel)) rfl
theorem uw100 : Cond.code yX7_step cX7_step 3 none ∈ wsU := ut4 (List.mem_of_getElem? (i := 17) (by decide +kernel)) rfl
theorem uw101 : Cond.methodLink RX7 37 yX7_takeItem ∈ wsU := ut4 (List.mem_of_getElem? (i := 23) (by decide +kernel)) rfl
theorem uw102 : Cond.instanceMethod yX7_takeItem ∈ wsU := ut4 (List.mem_of_getElem? (i := 25) (by decide +kernel)) rfl
theorem uw103 : Cond.selects RX7 yX7_takeItem yX7_takeItem ∈ wsU := us_sel (q := (yX7_takeItem, 7)) (List.mem_of_getElem? (i := 17) (by decide +kernel)) rfl
theorem uw104 : Cond.code yX7_takeItem cX7_takeItem 2 (some .boolean) ∈ wsU := ut4 (List.mem_of_getElem? (i := 26) (by decide +kernel)) rfl
theorem uw105 : Cond.fieldLink RX7 15 "LongerBack$Text" "bytes" "[I" ∈ wsU := ut1 (List.mem_of_getElem? (i := 167) (by decide +kernel)) rfl
theorem uw106 : Cond.fieldLink RX4 9 "LongerBack$Sheet" "bits" "I" ∈ wsU := ut1 (List.mem_of_getElem? (i := 195) (by decide +kernel)) rfl
theorem uw107 : Cond.lays RX4 "LongerBack$Sheet" "bits" "I" ∈ wsU := ut1 (List.mem_of_getElem? (i := 201) (by decide +kernel)) rfl
theorem uw108 : Cond.lays RX4 "LongerBack$Sheet" "size" "I" ∈ wsU := ut1 (List.mem_of_getElem? (i := 203) (by decide +kernel)) rfl
theorem uw109 : Cond.laysFinal RX4 "LongerBack$Sheet" "numbers" "[J" ∈ wsU := ut1 (List.mem_of_getElem? (i := 205) (by decide +kernel)) rfl
theorem uw110 : Cond.fieldLink RX4 15 "LongerBack$Sheet" "size" "I" ∈ wsU := ut1 (List.mem_of_getElem? (i := 197) (by decide +kernel)) rfl
theorem uw111 : Cond.fieldLink RX4 18 "LongerBack$Sheet" "numbers" "[J" ∈ wsU := ut1 (List.mem_of_getElem? (i := 199) (by decide +kernel)) rfl
theorem uw112 : Cond.fieldLink RX8 29 "LongerBack" "atlas" "LLongerBack$Atlas;" ∈ wsU := ut1 (List.mem_of_getElem? (i := 213) (by decide +kernel)) rfl
theorem uw113 : Cond.fieldLink RX8 12 "LongerBack" "here" "LLongerBack$Land;" ∈ wsU := ut1 (List.mem_of_getElem? (i := 209) (by decide +kernel)) rfl
theorem uw114 : Cond.methodLink RX8 146 yX0_measure ∈ wsU := ut2 (List.mem_of_getElem? (i := 87) (by decide +kernel)) rfl
theorem uw115 : Cond.instanceMethod yX0_measure ∈ wsU := ut2 (List.mem_of_getElem? (i := 88) (by decide +kernel)) rfl
theorem uw116 : Cond.selects RX0 yX0_measure yX0_measure ∈ wsU := ut2 (List.mem_of_getElem? (i := 89) (by decide +kernel)) rfl
theorem uw117 : Cond.code yX0_measure cX0_measure 4 none ∈ wsU := ut2 (List.mem_of_getElem? (i := 90) (by decide +kernel)) rfl
theorem uw118 : Cond.methodLink RX8 332 yX0_hasLoop ∈ wsU := ut2 (List.mem_of_getElem? (i := 113) (by decide +kernel)) rfl
theorem uw119 : Cond.instanceMethod yX0_hasLoop ∈ wsU := ut2 (List.mem_of_getElem? (i := 114) (by decide +kernel)) rfl
theorem uw120 : Cond.selects RX0 yX0_hasLoop yX0_hasLoop ∈ wsU := ut2 (List.mem_of_getElem? (i := 115) (by decide +kernel)) rfl
theorem uw121 : Cond.code yX0_hasLoop cX0_hasLoop 2 (some .boolean) ∈ wsU := ut2 (List.mem_of_getElem? (i := 116) (by decide +kernel)) rfl
theorem uw122 : Cond.fieldLink RX8 75 "LongerBack$Land" "places" "I" ∈ wsU := ut1 (List.mem_of_getElem? (i := 56) (by decide +kernel)) rfl
theorem uw123 : Cond.methodLink RX8 84 yX1_addPlace ∈ wsU := ut2 (List.mem_of_getElem? (i := 16) (by decide +kernel)) rfl
theorem uw124 : Cond.instanceMethod yX1_addPlace ∈ wsU := ut2 (List.mem_of_getElem? (i := 17) (by decide +kernel)) rfl
theorem uw125 : Cond.selects RX1 yX1_addPlace yX1_addPlace ∈ wsU := ut2 (List.mem_of_getElem? (i := 18) (by decide +kernel)) rfl
theorem uw126 : Cond.code yX1_addPlace cX1_addPlace 3 (some .int) ∈ wsU := ut2 (List.mem_of_getElem? (i := 19) (by decide +kernel)) rfl
theorem uw127 : Cond.methodLink RX8 87 yX1_isPlace ∈ wsU := ut2 (List.mem_of_getElem? (i := 24) (by decide +kernel)) rfl
theorem uw128 : Cond.methodLink RX8 80 yX8_finding ∈ wsU := ut2 (List.mem_of_getElem? (i := 11) (by decide +kernel)) rfl
theorem uw129 : Cond.instanceMethod yX8_finding ∈ wsU := ut2 (List.mem_of_getElem? (i := 13) (by decide +kernel)) rfl
theorem uw130 : Cond.selects RX8 yX8_finding yX8_finding ∈ wsU := us_sel (q := (yX8_finding, 12)) (List.mem_of_getElem? (i := 0) (by decide +kernel)) rfl
theorem uw131 : Cond.initialized RX8 ∈ wsU := ut1 (List.mem_of_getElem? (i := 1) (by decide +kernel)) rfl
theorem uw132 : Cond.code yX8_finding cX8_finding 3 (some .int) ∈ wsU := ut2 (List.mem_of_getElem? (i := 14) (by decide +kernel)) rfl
theorem uw133 : Cond.methodLink RX8 99 yX1_areTwo ∈ wsU := ut2 (List.mem_of_getElem? (i := 35) (by decide +kernel)) rfl
theorem uw134 : Cond.instanceMethod yX1_areTwo ∈ wsU := ut2 (List.mem_of_getElem? (i := 36) (by decide +kernel)) rfl
theorem uw135 : Cond.selects RX1 yX1_areTwo yX1_areTwo ∈ wsU := ut2 (List.mem_of_getElem? (i := 37) (by decide +kernel)) rfl
theorem uw136 : Cond.code yX1_areTwo cX1_areTwo 3 (some .boolean) ∈ wsU := ut2 (List.mem_of_getElem? (i := 38) (by decide +kernel)) rfl
theorem uw137 : Cond.methodLink RX8 155 yX8_isKind ∈ wsU := ut2 (List.mem_of_getElem? (i := 168) (by decide +kernel)) rfl
theorem uw138 : Cond.static yX8_isKind ∈ wsU := ut2 (List.mem_of_getElem? (i := 169) (by decide +kernel)) rfl
theorem uw139 : Cond.initialized yX8_isKind.cls ∈ wsU := ut1 (List.mem_of_getElem? (i := 1) (by decide +kernel)) rfl
theorem uw140 : Cond.code yX8_isKind cX8_isKind 1 (some .boolean) ∈ wsU := ut2 (List.mem_of_getElem? (i := 170) (by decide +kernel)) rfl
theorem uw141 : Cond.fieldLink RX8 159 "LongerBack$Land" "rounds" "LLongerBack$Rows;" ∈ wsU := ut1 (List.mem_of_getElem? (i := 69) (by decide +kernel)) rfl
theorem uw142 : Cond.methodLink RX8 171 yX3_has ∈ wsU := ut2 (List.mem_of_getElem? (i := 191) (by decide +kernel)) rfl
theorem uw143 : Cond.instanceMethod yX3_has ∈ wsU := ut2 (List.mem_of_getElem? (i := 192) (by decide +kernel)) rfl
theorem uw144 : Cond.selects RX3 yX3_has yX3_has ∈ wsU := ut2 (List.mem_of_getElem? (i := 193) (by decide +kernel)) rfl
theorem uw145 : Cond.code yX3_has cX3_has 2 (some .boolean) ∈ wsU := ut2 (List.mem_of_getElem? (i := 194) (by decide +kernel)) rfl
theorem uw146 : Cond.fieldLink RX8 229 "LongerBack$Land" "walks" "LLongerBack$Rows;" ∈ wsU := ut1 (List.mem_of_getElem? (i := 76) (by decide +kernel)) rfl
theorem uw147 : Cond.methodLink RX8 150 yX0_loopSet ∈ wsU := ut2 (List.mem_of_getElem? (i := 152) (by decide +kernel)) rfl
theorem uw148 : Cond.instanceMethod yX0_loopSet ∈ wsU := ut2 (List.mem_of_getElem? (i := 153) (by decide +kernel)) rfl
theorem uw149 : Cond.selects RX0 yX0_loopSet yX0_loopSet ∈ wsU := ut2 (List.mem_of_getElem? (i := 154) (by decide +kernel)) rfl
theorem uw150 : Cond.code yX0_loopSet cX0_loopSet 4 (some .int) ∈ wsU := ut2 (List.mem_of_getElem? (i := 155) (by decide +kernel)) rfl
theorem uw151 : Cond.methodLink RX8 128 yX8_isLooped ∈ wsU := ut2 (List.mem_of_getElem? (i := 83) (by decide +kernel)) rfl
theorem uw152 : Cond.instanceMethod yX8_isLooped ∈ wsU := ut2 (List.mem_of_getElem? (i := 85) (by decide +kernel)) rfl
theorem uw153 : Cond.selects RX8 yX8_isLooped yX8_isLooped ∈ wsU := us_sel (q := (yX8_isLooped, 12)) (List.mem_of_getElem? (i := 1) (by decide +kernel)) rfl
theorem uw154 : Cond.code yX8_isLooped cX8_isLooped 1 (some .boolean) ∈ wsU := ut2 (List.mem_of_getElem? (i := 86) (by decide +kernel)) rfl
theorem uw155 : Cond.methodLink RX8 197 yX0_homeOf ∈ wsU := ut3 (List.mem_of_getElem? (i := 44) (by decide +kernel)) rfl
theorem uw156 : Cond.constant RX8 113 (-1000000004) ∈ wsU := ut2 (List.mem_of_getElem? (i := 58) (by decide +kernel)) rfl
theorem uw157 : Cond.methodLink RX8 263 yX0_leastTrip ∈ wsU := ut3 (List.mem_of_getElem? (i := 198) (by decide +kernel)) rfl
theorem uw158 : Cond.instanceMethod yX0_leastTrip ∈ wsU := ut3 (List.mem_of_getElem? (i := 199) (by decide +kernel)) rfl
theorem uw159 : Cond.selects RX0 yX0_leastTrip yX0_leastTrip ∈ wsU := ut3 (List.mem_of_getElem? (i := 200) (by decide +kernel)) rfl
theorem uw160 : Cond.code yX0_leastTrip cX0_leastTrip 3 (some .int) ∈ wsU := ut3 (List.mem_of_getElem? (i := 201) (by decide +kernel)) rfl
theorem uw161 : Cond.constant RX8 154 1000000000 ∈ wsU := ut2 (List.mem_of_getElem? (i := 108) (by decide +kernel)) rfl
theorem uw162 : Cond.fieldLink RX8 46 "LongerBack" "slopes" "LLongerBack$Slopes;" ∈ wsU := ut1 (List.mem_of_getElem? (i := 216) (by decide +kernel)) rfl
theorem uw163 : Cond.methodLink RX8 209 yX5_climb ∈ wsU := ut3 (List.mem_of_getElem? (i := 66) (by decide +kernel)) rfl
theorem uw164 : Cond.instanceMethod yX5_climb ∈ wsU := ut3 (List.mem_of_getElem? (i := 67) (by decide +kernel)) rfl
theorem uw165 : Cond.selects RX5 yX5_climb yX5_climb ∈ wsU := ut3 (List.mem_of_getElem? (i := 68) (by decide +kernel)) rfl
theorem uw166 : Cond.initialized RX5 ∈ wsU := ut1 (List.mem_of_getElem? (i := 6) (by decide +kernel)) rfl
theorem uw167 : Cond.code yX5_climb cX5_climb 3 none ∈ wsU := ut3 (List.mem_of_getElem? (i := 69) (by decide +kernel)) rfl
theorem uw168 : Cond.methodLink RX8 212 yX5_doFit ∈ wsU := ut3 (List.mem_of_getElem? (i := 83) (by decide +kernel)) rfl
theorem uw169 : Cond.instanceMethod yX5_doFit ∈ wsU := ut3 (List.mem_of_getElem? (i := 84) (by decide +kernel)) rfl
theorem uw170 : Cond.selects RX5 yX5_doFit yX5_doFit ∈ wsU := ut3 (List.mem_of_getElem? (i := 85) (by decide +kernel)) rfl
theorem uw171 : Cond.code yX5_doFit cX5_doFit 4 (some .boolean) ∈ wsU := ut3 (List.mem_of_getElem? (i := 86) (by decide +kernel)) rfl
theorem uw172 : Cond.methodLink RX8 226 yX5_mostOffPaper ∈ wsU := ut3 (List.mem_of_getElem? (i := 103) (by decide +kernel)) rfl
theorem uw173 : Cond.static yX5_mostOffPaper ∈ wsU := ut3 (List.mem_of_getElem? (i := 104) (by decide +kernel)) rfl
theorem uw174 : Cond.initialized yX5_mostOffPaper.cls ∈ wsU := ut1 (List.mem_of_getElem? (i := 6) (by decide +kernel)) rfl
theorem uw175 : Cond.code yX5_mostOffPaper cX5_mostOffPaper 4 (some .int) ∈ wsU := ut3 (List.mem_of_getElem? (i := 105) (by decide +kernel)) rfl
theorem uw176 : Cond.fieldLink RX8 53 "LongerBack" "learner" "LLongerBack$Learner;" ∈ wsU := ut1 (List.mem_of_getElem? (i := 217) (by decide +kernel)) rfl
theorem uw177 : Cond.methodLink RX8 238 yX2_learnIn ∈ wsU := ut3 (List.mem_of_getElem? (i := 128) (by decide +kernel)) rfl
theorem uw178 : Cond.instanceMethod yX2_learnIn ∈ wsU := ut3 (List.mem_of_getElem? (i := 129) (by decide +kernel)) rfl
theorem uw179 : Cond.selects RX2 yX2_learnIn yX2_learnIn ∈ wsU := ut3 (List.mem_of_getElem? (i := 130) (by decide +kernel)) rfl
theorem uw180 : Cond.initialized RX2 ∈ wsU := ut1 (List.mem_of_getElem? (i := 7) (by decide +kernel)) rfl
theorem uw181 : Cond.code yX2_learnIn cX2_learnIn 5 (some .int) ∈ wsU := ut3 (List.mem_of_getElem? (i := 131) (by decide +kernel)) rfl
theorem uw182 : Cond.fieldLink RX8 19 "LongerBack" "draft" "LLongerBack$Land;" ∈ wsU := ut1 (List.mem_of_getElem? (i := 211) (by decide +kernel)) rfl
theorem uw183 : Cond.methodLink RX8 241 yX1_become ∈ wsU := ut3 (List.mem_of_getElem? (i := 153) (by decide +kernel)) rfl
theorem uw184 : Cond.instanceMethod yX1_become ∈ wsU := ut3 (List.mem_of_getElem? (i := 154) (by decide +kernel)) rfl
theorem uw185 : Cond.selects RX1 yX1_become yX1_become ∈ wsU := ut3 (List.mem_of_getElem? (i := 155) (by decide +kernel)) rfl
theorem uw186 : Cond.code yX1_become cX1_become 2 none ∈ wsU := ut3 (List.mem_of_getElem? (i := 156) (by decide +kernel)) rfl
theorem uw187 : Cond.fieldLink RX8 244 "LongerBack$Learner" "liars" "I" ∈ wsU := ut1 (List.mem_of_getElem? (i := 152) (by decide +kernel)) rfl
theorem uw188 : Cond.methodLink RX8 256 yX1_widestWay ∈ wsU := ut3 (List.mem_of_getElem? (i := 185) (by decide +kernel)) rfl
theorem uw189 : Cond.instanceMethod yX1_widestWay ∈ wsU := ut3 (List.mem_of_getElem? (i := 186) (by decide +kernel)) rfl
theorem uw190 : Cond.selects RX1 yX1_widestWay yX1_widestWay ∈ wsU := ut3 (List.mem_of_getElem? (i := 187) (by decide +kernel)) rfl
theorem uw191 : Cond.code yX1_widestWay cX1_widestWay 4 (some .int) ∈ wsU := ut3 (List.mem_of_getElem? (i := 188) (by decide +kernel)) rfl
theorem uw192 : Cond.methodLink RX8 272 yX1_hollowSet ∈ wsU := ut3 (List.mem_of_getElem? (i := 229) (by decide +kernel)) rfl
theorem uw193 : Cond.instanceMethod yX1_hollowSet ∈ wsU := ut3 (List.mem_of_getElem? (i := 230) (by decide +kernel)) rfl
theorem uw194 : Cond.selects RX1 yX1_hollowSet yX1_hollowSet ∈ wsU := ut3 (List.mem_of_getElem? (i := 231) (by decide +kernel)) rfl
theorem uw195 : Cond.code yX1_hollowSet cX1_hollowSet 5 (some .int) ∈ wsU := ut3 (List.mem_of_getElem? (i := 232) (by decide +kernel)) rfl
theorem uw196 : Cond.fieldLink RX8 60 "LongerBack" "text" "LLongerBack$Text;" ∈ wsU := ut1 (List.mem_of_getElem? (i := 218) (by decide +kernel)) rfl
theorem uw197 : Cond.fieldLink RX8 275 "LongerBack$Text" "size" "I" ∈ wsU := ut1 (List.mem_of_getElem? (i := 166) (by decide +kernel)) rfl
theorem uw198 : Cond.methodLink RX8 282 yX7_tellTo ∈ wsU := ut4 (List.mem_of_getElem? (i := 10) (by decide +kernel)) rfl
theorem uw199 : Cond.instanceMethod yX7_tellTo ∈ wsU := ut4 (List.mem_of_getElem? (i := 11) (by decide +kernel)) rfl
theorem uw200 : Cond.selects RX7 yX7_tellTo yX7_tellTo ∈ wsU := ut4 (List.mem_of_getElem? (i := 12) (by decide +kernel)) rfl
theorem uw201 : Cond.code yX7_tellTo cX7_tellTo 3 (some .int) ∈ wsU := ut4 (List.mem_of_getElem? (i := 13) (by decide +kernel)) rfl
theorem uw202 : Cond.fieldLink RX8 16 "LongerBack" "kept" "LLongerBack$Land;" ∈ wsU := ut1 (List.mem_of_getElem? (i := 210) (by decide +kernel)) rfl
theorem uw203 : Cond.fieldLink RX8 22 "LongerBack" "isKept" "Z" ∈ wsU := ut1 (List.mem_of_getElem? (i := 212) (by decide +kernel)) rfl
theorem inUX8 : ∀ w ∈ u_ws RX8 TX8 12, w ∈ wsU := List.forall_mem_cons.mpr ⟨uw6, List.forall_mem_cons.mpr ⟨uw7, List.forall_mem_cons.mpr ⟨uw8, List.forall_mem_cons.mpr ⟨uw9, List.forall_mem_cons.mpr ⟨uw10, List.forall_mem_cons.mpr ⟨uw11, List.forall_mem_cons.mpr ⟨uw12, List.forall_mem_cons.mpr ⟨uw13, List.forall_mem_cons.mpr ⟨uw14, List.forall_mem_cons.mpr ⟨uw15, List.forall_mem_cons.mpr ⟨uw16, List.forall_mem_cons.mpr ⟨uw17, fun _ h => absurd h List.not_mem_nil⟩⟩⟩⟩⟩⟩⟩⟩⟩⟩⟩⟩
theorem inUX1 : ∀ w ∈ u_ws RX1 TX1 10, w ∈ wsU := List.forall_mem_cons.mpr ⟨uw19, List.forall_mem_cons.mpr ⟨uw20, List.forall_mem_cons.mpr ⟨uw21, List.forall_mem_cons.mpr ⟨uw22, List.forall_mem_cons.mpr ⟨uw23, List.forall_mem_cons.mpr ⟨uw24, List.forall_mem_cons.mpr ⟨uw25, List.forall_mem_cons.mpr ⟨uw26, List.forall_mem_cons.mpr ⟨uw27, List.forall_mem_cons.mpr ⟨uw28, fun _ h => absurd h List.not_mem_nil⟩⟩⟩⟩⟩⟩⟩⟩⟩⟩
theorem inUX3 : ∀ w ∈ u_ws RX3 TX3 3, w ∈ wsU := List.forall_mem_cons.mpr ⟨uw35, List.forall_mem_cons.mpr ⟨uw36, List.forall_mem_cons.mpr ⟨uw37, fun _ h => absurd h List.not_mem_nil⟩⟩⟩
theorem inUX0 : ∀ w ∈ u_ws RX0 TX0 2, w ∈ wsU := List.forall_mem_cons.mpr ⟨uw42, List.forall_mem_cons.mpr ⟨uw43, fun _ h => absurd h List.not_mem_nil⟩⟩
theorem inUX2 : ∀ w ∈ u_ws RX2 TX2 2, w ∈ wsU := List.forall_mem_cons.mpr ⟨uw52, List.forall_mem_cons.mpr ⟨uw53, fun _ h => absurd h List.not_mem_nil⟩⟩
theorem inUX7 : ∀ w ∈ u_ws RX7 TX7 7, w ∈ wsU := List.forall_mem_cons.mpr ⟨uw77, List.forall_mem_cons.mpr ⟨uw78, List.forall_mem_cons.mpr ⟨uw79, List.forall_mem_cons.mpr ⟨uw80, List.forall_mem_cons.mpr ⟨uw81, List.forall_mem_cons.mpr ⟨uw82, List.forall_mem_cons.mpr ⟨uw83, fun _ h => absurd h List.not_mem_nil⟩⟩⟩⟩⟩⟩⟩
theorem inUX4 : ∀ w ∈ u_ws RX4 TX4 3, w ∈ wsU := List.forall_mem_cons.mpr ⟨uw107, List.forall_mem_cons.mpr ⟨uw108, List.forall_mem_cons.mpr ⟨uw109, fun _ h => absurd h List.not_mem_nil⟩⟩⟩
theorem ks_X8_91 : xWS RX8 91 yX8_isWithin cX8_isWithin 3 (some .boolean) 3 := ⟨⟨uw0, uw1, uw2, uw3⟩, by decide +kernel⟩
theorem kf_X8_70 : xWF RX8 70 8 11 RX8 TX8 12 := ⟨inUX8, rfl, by decide, uw5⟩
theorem kf_X1_9 : xWF RX1 9 1 0 RX1 TX1 10 := ⟨inUX1, rfl, by decide, uw18⟩
theorem kv_X1_57 : xWV RX1 57 RX1 yX1_isPlace cX1_isPlace 3 (some .boolean) 1 := ⟨⟨uw29, uw30, uw31, uw32, uw33⟩, by decide +kernel⟩
theorem kf_X3_9 : xWF RX3 9 3 0 RX3 TX3 3 := ⟨inUX3, rfl, by decide, uw34⟩
theorem kf_X1_25 : xWF RX1 25 1 4 RX1 TX1 10 := ⟨inUX1, rfl, by decide, uw38⟩
theorem kf_X1_15 : xWF RX1 15 1 1 RX1 TX1 10 := ⟨inUX1, rfl, by decide, uw39⟩
theorem kf_X0_19 : xWF RX0 19 1 0 RX1 TX1 10 := ⟨inUX1, rfl, by decide, uw40⟩
theorem kf_X0_9 : xWF RX0 9 0 0 RX0 TX0 2 := ⟨inUX0, rfl, by decide, uw41⟩
theorem kv_X0_73 : xWV RX0 73 RX0 yX0_homeOf cX0_homeOf 6 (some .int) 1 := ⟨⟨uw45, uw46, uw47, uw48, uw49⟩, by decide +kernel⟩
theorem kf_X5_22 : xWF RX5 22 1 0 RX1 TX1 10 := ⟨inUX1, rfl, by decide, uw50⟩
theorem kf_X2_7 : xWF RX2 7 2 0 RX2 TX2 2 := ⟨inUX2, rfl, by decide, uw51⟩
theorem kf_X2_13 : xWF RX2 13 2 1 RX2 TX2 2 := ⟨inUX2, rfl, by decide, uw54⟩
theorem kf_X2_17 : xWF RX2 17 1 7 RX1 TX1 10 := ⟨inUX1, rfl, by decide, uw55⟩
theorem kf_X2_23 : xWF RX2 23 3 0 RX3 TX3 3 := ⟨inUX3, rfl, by decide, uw56⟩
theorem kf_X3_15 : xWF RX3 15 3 1 RX3 TX3 3 := ⟨inUX3, rfl, by decide, uw57⟩
theorem kf_X3_19 : xWF RX3 19 3 2 RX3 TX3 3 := ⟨inUX3, rfl, by decide, uw62⟩
theorem kf_X1_19 : xWF RX1 19 1 2 RX1 TX1 10 := ⟨inUX1, rfl, by decide, uw64⟩
theorem kf_X1_22 : xWF RX1 22 1 3 RX1 TX1 10 := ⟨inUX1, rfl, by decide, uw65⟩
theorem kf_X1_31 : xWF RX1 31 1 5 RX1 TX1 10 := ⟨inUX1, rfl, by decide, uw66⟩
theorem kv_X1_53 : xWV RX1 53 RX3 yX3_become cX3_become 2 none 1 := ⟨⟨uw67, uw68, uw69, uw70, uw71⟩, by decide +kernel⟩
theorem kf_X1_35 : xWF RX1 35 1 6 RX1 TX1 10 := ⟨inUX1, rfl, by decide, uw72⟩
theorem kf_X1_38 : xWF RX1 38 1 7 RX1 TX1 10 := ⟨inUX1, rfl, by decide, uw73⟩
theorem kf_X1_41 : xWF RX1 41 1 8 RX1 TX1 10 := ⟨inUX1, rfl, by decide, uw74⟩
theorem kf_X1_44 : xWF RX1 44 1 9 RX1 TX1 10 := ⟨inUX1, rfl, by decide, uw75⟩
theorem kf_X7_9 : xWF RX7 9 7 0 RX7 TX7 7 := ⟨inUX7, rfl, by decide, uw76⟩
theorem kf_X7_25 : xWF RX7 25 7 4 RX7 TX7 7 := ⟨inUX7, rfl, by decide, uw84⟩
theorem kf_X7_22 : xWF RX7 22 7 3 RX7 TX7 7 := ⟨inUX7, rfl, by decide, uw85⟩
theorem kv_X7_142 : xWV RX7 142 RX7 yX7_kindAt cX7_kindAt 3 (some .int) 1 := ⟨⟨uw86, uw87, uw88, uw89, uw90⟩, by decide +kernel⟩
theorem kf_X7_19 : xWF RX7 19 7 2 RX7 TX7 7 := ⟨inUX7, rfl, by decide, uw91⟩
theorem kf_X7_28 : xWF RX7 28 7 5 RX7 TX7 7 := ⟨inUX7, rfl, by decide, uw92⟩
theorem kv_X7_43 : xWV RX7 43 RX7 yX7_isWord cX7_isWord 3 (some .boolean) 1 := ⟨⟨uw93, uw94, uw95, uw89, uw96⟩, by decide +kernel⟩
theorem kv_X7_34 : xWV RX7 34 RX7 yX7_step cX7_step 3 none 0 := ⟨⟨uw97, uw98, uw99, uw89, uw100⟩, by decide +kernel⟩
theorem kv_X7_37 : xWV RX7 37 RX7 yX7_takeItem cX7_takeItem 2 (some .boolean) 1 := ⟨⟨uw101, uw102, uw103, uw89, uw104⟩, by decide +kernel⟩
theorem kf_X7_15 : xWF RX7 15 7 1 RX7 TX7 7 := ⟨inUX7, rfl, by decide, uw105⟩
theorem kf_X4_9 : xWF RX4 9 4 0 RX4 TX4 3 := ⟨inUX4, rfl, by decide, uw106⟩
theorem kf_X4_15 : xWF RX4 15 4 1 RX4 TX4 3 := ⟨inUX4, rfl, by decide, uw110⟩
theorem kf_X4_18 : xWF RX4 18 4 2 RX4 TX4 3 := ⟨inUX4, rfl, by decide, uw111⟩
theorem kf_X8_29 : xWF RX8 29 8 4 RX8 TX8 12 := ⟨inUX8, rfl, by decide, uw112⟩
theorem kf_X8_12 : xWF RX8 12 8 0 RX8 TX8 12 := ⟨inUX8, rfl, by decide, uw113⟩
theorem kv_X8_146 : xWV RX8 146 RX0 yX0_measure cX0_measure 4 none 1 := ⟨⟨uw114, uw115, uw116, uw48, uw117⟩, by decide +kernel⟩
theorem kv_X8_332 : xWV RX8 332 RX0 yX0_hasLoop cX0_hasLoop 2 (some .boolean) 0 := ⟨⟨uw118, uw119, uw120, uw48, uw121⟩, by decide +kernel⟩
theorem kf_X8_75 : xWF RX8 75 1 0 RX1 TX1 10 := ⟨inUX1, rfl, by decide, uw122⟩
theorem kv_X8_84 : xWV RX8 84 RX1 yX1_addPlace cX1_addPlace 3 (some .int) 1 := ⟨⟨uw123, uw124, uw125, uw32, uw126⟩, by decide +kernel⟩
theorem kv_X8_87 : xWV RX8 87 RX1 yX1_isPlace cX1_isPlace 3 (some .boolean) 1 := ⟨⟨uw127, uw30, uw31, uw32, uw33⟩, by decide +kernel⟩
theorem kv_X8_80 : xWV RX8 80 RX8 yX8_finding cX8_finding 3 (some .int) 1 := ⟨⟨uw128, uw129, uw130, uw131, uw132⟩, by decide +kernel⟩
theorem kv_X8_99 : xWV RX8 99 RX1 yX1_areTwo cX1_areTwo 3 (some .boolean) 2 := ⟨⟨uw133, uw134, uw135, uw32, uw136⟩, by decide +kernel⟩
theorem ks_X8_155 : xWS RX8 155 yX8_isKind cX8_isKind 1 (some .boolean) 1 := ⟨⟨uw137, uw138, uw139, uw140⟩, by decide +kernel⟩
theorem kf_X8_159 : xWF RX8 159 1 5 RX1 TX1 10 := ⟨inUX1, rfl, by decide, uw141⟩
theorem kv_X8_171 : xWV RX8 171 RX3 yX3_has cX3_has 2 (some .boolean) 1 := ⟨⟨uw142, uw143, uw144, uw70, uw145⟩, by decide +kernel⟩
theorem kf_X8_229 : xWF RX8 229 1 7 RX1 TX1 10 := ⟨inUX1, rfl, by decide, uw146⟩
theorem kv_X8_150 : xWV RX8 150 RX0 yX0_loopSet cX0_loopSet 4 (some .int) 0 := ⟨⟨uw147, uw148, uw149, uw48, uw150⟩, by decide +kernel⟩
theorem kv_X8_128 : xWV RX8 128 RX8 yX8_isLooped cX8_isLooped 1 (some .boolean) 0 := ⟨⟨uw151, uw152, uw153, uw131, uw154⟩, by decide +kernel⟩
theorem kv_X8_197 : xWV RX8 197 RX0 yX0_homeOf cX0_homeOf 6 (some .int) 1 := ⟨⟨uw155, uw46, uw47, uw48, uw49⟩, by decide +kernel⟩
theorem kv_X8_263 : xWV RX8 263 RX0 yX0_leastTrip cX0_leastTrip 3 (some .int) 1 := ⟨⟨uw157, uw158, uw159, uw48, uw160⟩, by decide +kernel⟩
theorem kf_X8_46 : xWF RX8 46 8 7 RX8 TX8 12 := ⟨inUX8, rfl, by decide, uw162⟩
theorem kv_X8_209 : xWV RX8 209 RX5 yX5_climb cX5_climb 3 none 1 := ⟨⟨uw163, uw164, uw165, uw166, uw167⟩, by decide +kernel⟩
theorem kv_X8_212 : xWV RX8 212 RX5 yX5_doFit cX5_doFit 4 (some .boolean) 1 := ⟨⟨uw168, uw169, uw170, uw166, uw171⟩, by decide +kernel⟩
theorem ks_X8_226 : xWS RX8 226 yX5_mostOffPaper cX5_mostOffPaper 4 (some .int) 1 := ⟨⟨uw172, uw173, uw174, uw175⟩, by decide +kernel⟩
theorem kf_X8_53 : xWF RX8 53 8 8 RX8 TX8 12 := ⟨inUX8, rfl, by decide, uw176⟩
theorem kv_X8_238 : xWV RX8 238 RX2 yX2_learnIn cX2_learnIn 5 (some .int) 1 := ⟨⟨uw177, uw178, uw179, uw180, uw181⟩, by decide +kernel⟩
theorem kf_X8_19 : xWF RX8 19 8 2 RX8 TX8 12 := ⟨inUX8, rfl, by decide, uw182⟩
theorem kv_X8_241 : xWV RX8 241 RX1 yX1_become cX1_become 2 none 1 := ⟨⟨uw183, uw184, uw185, uw32, uw186⟩, by decide +kernel⟩
theorem kf_X8_244 : xWF RX8 244 2 0 RX2 TX2 2 := ⟨inUX2, rfl, by decide, uw187⟩
theorem kv_X8_256 : xWV RX8 256 RX1 yX1_widestWay cX1_widestWay 4 (some .int) 0 := ⟨⟨uw188, uw189, uw190, uw32, uw191⟩, by decide +kernel⟩
theorem kv_X8_272 : xWV RX8 272 RX1 yX1_hollowSet cX1_hollowSet 5 (some .int) 0 := ⟨⟨uw192, uw193, uw194, uw32, uw195⟩, by decide +kernel⟩
theorem kf_X8_60 : xWF RX8 60 8 9 RX8 TX8 12 := ⟨inUX8, rfl, by decide, uw196⟩
theorem kf_X8_275 : xWF RX8 275 7 0 RX7 TX7 7 := ⟨inUX7, rfl, by decide, uw197⟩
theorem kv_X8_282 : xWV RX8 282 RX7 yX7_tellTo cX7_tellTo 3 (some .int) 1 := ⟨⟨uw198, uw199, uw200, uw89, uw201⟩, by decide +kernel⟩
theorem kf_X8_16 : xWF RX8 16 8 1 RX8 TX8 12 := ⟨inUX8, rfl, by decide, uw202⟩
theorem kf_X8_22 : xWF RX8 22 8 3 RX8 TX8 12 := ⟨inUX8, rfl, by decide, uw203⟩
