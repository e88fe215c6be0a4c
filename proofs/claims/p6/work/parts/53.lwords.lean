theorem uw984 : Cond.methodLink RL 13 yX8_place ∈ wsU := ut2 (List.mem_of_getElem? (i := 6) rfl) rfl
theorem uw985 : Cond.instanceMethod yX8_place ∈ wsU := ut2 (List.mem_of_getElem? (i := 7) rfl) rfl
theorem uw986 : Cond.selects RX8 yX8_place yX8_place ∈ wsU := ut2 (List.mem_of_getElem? (i := 8) rfl) rfl
theorem uw987 : Cond.code yX8_place cX8_place 1 (some .int) ∈ wsU := ut2 (List.mem_of_getElem? (i := 9) rfl) rfl
theorem uw988 : Cond.methodLink RL 17 yX9_place ∈ wsU := ut5 (List.mem_of_getElem? (i := 50) rfl) rfl
theorem uw989 : Cond.instanceMethod yX9_place ∈ wsU := ut5 (List.mem_of_getElem? (i := 51) rfl) rfl
theorem uw990 : Cond.selects RX9 yX9_place yX9_place ∈ wsU := ut5 (List.mem_of_getElem? (i := 52) rfl) rfl
theorem uw991 : Cond.code yX9_place cX9_place 1 (some .int) ∈ wsU := ut5 (List.mem_of_getElem? (i := 53) rfl) rfl
theorem uw992 : Cond.methodLink RL 18 yX8_errands ∈ wsU := ut2 (List.mem_of_getElem? (i := 20) rfl) rfl
theorem uw993 : Cond.instanceMethod yX8_errands ∈ wsU := ut2 (List.mem_of_getElem? (i := 21) rfl) rfl
theorem uw994 : Cond.selects RX8 yX8_errands yX8_errands ∈ wsU := ut2 (List.mem_of_getElem? (i := 22) rfl) rfl
theorem uw995 : Cond.code yX8_errands cX8_errands 4 (some .int) ∈ wsU := ut2 (List.mem_of_getElem? (i := 23) rfl) rfl
theorem uw996 : Cond.methodLink RL 22 yX9_errands ∈ wsU := ut5 (List.mem_of_getElem? (i := 64) rfl) rfl
theorem uw997 : Cond.instanceMethod yX9_errands ∈ wsU := ut5 (List.mem_of_getElem? (i := 65) rfl) rfl
theorem uw998 : Cond.selects RX9 yX9_errands yX9_errands ∈ wsU := ut5 (List.mem_of_getElem? (i := 66) rfl) rfl
theorem uw999 : Cond.code yX9_errands cX9_errands 4 (some .int) ∈ wsU := ut5 (List.mem_of_getElem? (i := 67) rfl) rfl
theorem uw1000 : Cond.methodLink RL 23 yX8_way ∈ wsU := ut2 (List.mem_of_getElem? (i := 31) rfl) rfl
theorem uw1001 : Cond.instanceMethod yX8_way ∈ wsU := ut2 (List.mem_of_getElem? (i := 32) rfl) rfl
theorem uw1002 : Cond.selects RX8 yX8_way yX8_way ∈ wsU := ut2 (List.mem_of_getElem? (i := 33) rfl) rfl
theorem uw1003 : Cond.code yX8_way cX8_way 6 (some .int) ∈ wsU := ut2 (List.mem_of_getElem? (i := 34) rfl) rfl
theorem uw1004 : Cond.methodLink RL 27 yX9_way ∈ wsU := ut5 (List.mem_of_getElem? (i := 76) rfl) rfl
theorem uw1005 : Cond.instanceMethod yX9_way ∈ wsU := ut5 (List.mem_of_getElem? (i := 77) rfl) rfl
theorem uw1006 : Cond.selects RX9 yX9_way yX9_way ∈ wsU := ut5 (List.mem_of_getElem? (i := 78) rfl) rfl
theorem uw1007 : Cond.code yX9_way cX9_way 5 (some .int) ∈ wsU := ut5 (List.mem_of_getElem? (i := 79) rfl) rfl
theorem uw1008 : Cond.methodLink RL 28 yX8_wayOf ∈ wsU := ut2 (List.mem_of_getElem? (i := 54) rfl) rfl
theorem uw1009 : Cond.instanceMethod yX8_wayOf ∈ wsU := ut2 (List.mem_of_getElem? (i := 55) rfl) rfl
theorem uw1010 : Cond.selects RX8 yX8_wayOf yX8_wayOf ∈ wsU := ut2 (List.mem_of_getElem? (i := 56) rfl) rfl
theorem uw1011 : Cond.code yX8_wayOf cX8_wayOf 4 (some .int) ∈ wsU := ut2 (List.mem_of_getElem? (i := 57) rfl) rfl
theorem uw1012 : Cond.methodLink RL 32 yX9_wayOf ∈ wsU := ut5 (List.mem_of_getElem? (i := 93) rfl) rfl
theorem uw1013 : Cond.instanceMethod yX9_wayOf ∈ wsU := ut5 (List.mem_of_getElem? (i := 94) rfl) rfl
theorem uw1014 : Cond.selects RX9 yX9_wayOf yX9_wayOf ∈ wsU := ut5 (List.mem_of_getElem? (i := 95) rfl) rfl
theorem uw1015 : Cond.code yX9_wayOf cX9_wayOf 5 (some .int) ∈ wsU := ut5 (List.mem_of_getElem? (i := 96) rfl) rfl
theorem uw1016 : Cond.methodLink RL 33 yX8_shut ∈ wsU := ut2 (List.mem_of_getElem? (i := 71) rfl) rfl
theorem uw1017 : Cond.instanceMethod yX8_shut ∈ wsU := ut2 (List.mem_of_getElem? (i := 72) rfl) rfl
theorem uw1018 : Cond.selects RX8 yX8_shut yX8_shut ∈ wsU := ut2 (List.mem_of_getElem? (i := 73) rfl) rfl
theorem uw1019 : Cond.code yX8_shut cX8_shut 5 (some .int) ∈ wsU := ut2 (List.mem_of_getElem? (i := 74) rfl) rfl
theorem uw1020 : Cond.methodLink RL 37 yX9_shut ∈ wsU := ut5 (List.mem_of_getElem? (i := 103) rfl) rfl
theorem uw1021 : Cond.instanceMethod yX9_shut ∈ wsU := ut5 (List.mem_of_getElem? (i := 104) rfl) rfl
theorem uw1022 : Cond.selects RX9 yX9_shut yX9_shut ∈ wsU := ut5 (List.mem_of_getElem? (i := 105) rfl) rfl
theorem uw1023 : Cond.code yX9_shut cX9_shut 5 (some .int) ∈ wsU := ut5 (List.mem_of_getElem? (i := 106) rfl) rfl
theorem uw1024 : Cond.methodLink RL 38 yX8_far ∈ wsU := ut2 (List.mem_of_getElem? (i := 79) rfl) rfl
theorem uw1025 : Cond.instanceMethod yX8_far ∈ wsU := ut2 (List.mem_of_getElem? (i := 80) rfl) rfl
theorem uw1026 : Cond.selects RX8 yX8_far yX8_far ∈ wsU := ut2 (List.mem_of_getElem? (i := 81) rfl) rfl
theorem uw1027 : Cond.code yX8_far cX8_far 3 (some .int) ∈ wsU := ut2 (List.mem_of_getElem? (i := 82) rfl) rfl
theorem uw1028 : Cond.methodLink RL 41 yX9_far ∈ wsU := ut5 (List.mem_of_getElem? (i := 107) rfl) rfl
theorem uw1029 : Cond.instanceMethod yX9_far ∈ wsU := ut5 (List.mem_of_getElem? (i := 108) rfl) rfl
theorem uw1030 : Cond.selects RX9 yX9_far yX9_far ∈ wsU := ut5 (List.mem_of_getElem? (i := 109) rfl) rfl
theorem uw1031 : Cond.code yX9_far cX9_far 3 (some .int) ∈ wsU := ut5 (List.mem_of_getElem? (i := 110) rfl) rfl
theorem uw1032 : Cond.methodLink RL 42 yX8_by ∈ wsU := ut2 (List.mem_of_getElem? (i := 129) rfl) rfl
theorem uw1033 : Cond.instanceMethod yX8_by ∈ wsU := ut2 (List.mem_of_getElem? (i := 130) rfl) rfl
theorem uw1034 : Cond.selects RX8 yX8_by yX8_by ∈ wsU := ut2 (List.mem_of_getElem? (i := 131) rfl) rfl
theorem uw1035 : Cond.code yX8_by cX8_by 5 (some .int) ∈ wsU := ut2 (List.mem_of_getElem? (i := 132) rfl) rfl
theorem uw1036 : Cond.methodLink RL 45 yX9_by ∈ wsU := ut5 (List.mem_of_getElem? (i := 129) rfl) rfl
theorem uw1037 : Cond.instanceMethod yX9_by ∈ wsU := ut5 (List.mem_of_getElem? (i := 130) rfl) rfl
theorem uw1038 : Cond.selects RX9 yX9_by yX9_by ∈ wsU := ut5 (List.mem_of_getElem? (i := 131) rfl) rfl
theorem uw1039 : Cond.code yX9_by cX9_by 10 (some .int) ∈ wsU := ut5 (List.mem_of_getElem? (i := 132) rfl) rfl
theorem uw1040 : Cond.methodLink RL 46 yX8_loops ∈ wsU := ut2 (List.mem_of_getElem? (i := 148) rfl) rfl
theorem uw1041 : Cond.instanceMethod yX8_loops ∈ wsU := ut2 (List.mem_of_getElem? (i := 149) rfl) rfl
theorem uw1042 : Cond.selects RX8 yX8_loops yX8_loops ∈ wsU := ut2 (List.mem_of_getElem? (i := 150) rfl) rfl
theorem uw1043 : Cond.code yX8_loops cX8_loops 1 (some .int) ∈ wsU := ut2 (List.mem_of_getElem? (i := 151) rfl) rfl
theorem uw1044 : Cond.methodLink RL 49 yX9_loops ∈ wsU := ut5 (List.mem_of_getElem? (i := 135) rfl) rfl
theorem uw1045 : Cond.instanceMethod yX9_loops ∈ wsU := ut5 (List.mem_of_getElem? (i := 136) rfl) rfl
theorem uw1046 : Cond.selects RX9 yX9_loops yX9_loops ∈ wsU := ut5 (List.mem_of_getElem? (i := 137) rfl) rfl
theorem uw1047 : Cond.code yX9_loops cX9_loops 5 (some .int) ∈ wsU := ut5 (List.mem_of_getElem? (i := 138) rfl) rfl
theorem uw1048 : Cond.methodLink RL 50 yX8_longer ∈ wsU := ut2 (List.mem_of_getElem? (i := 160) rfl) rfl
theorem uw1049 : Cond.instanceMethod yX8_longer ∈ wsU := ut2 (List.mem_of_getElem? (i := 161) rfl) rfl
theorem uw1050 : Cond.selects RX8 yX8_longer yX8_longer ∈ wsU := ut2 (List.mem_of_getElem? (i := 162) rfl) rfl
theorem uw1051 : Cond.code yX8_longer cX8_longer 5 (some .int) ∈ wsU := ut2 (List.mem_of_getElem? (i := 163) rfl) rfl
theorem uw1052 : Cond.methodLink RL 53 yX9_longer ∈ wsU := ut5 (List.mem_of_getElem? (i := 139) rfl) rfl
theorem uw1053 : Cond.instanceMethod yX9_longer ∈ wsU := ut5 (List.mem_of_getElem? (i := 140) rfl) rfl
theorem uw1054 : Cond.selects RX9 yX9_longer yX9_longer ∈ wsU := ut5 (List.mem_of_getElem? (i := 141) rfl) rfl
theorem uw1055 : Cond.code yX9_longer cX9_longer 5 (some .int) ∈ wsU := ut5 (List.mem_of_getElem? (i := 142) rfl) rfl
theorem uw1056 : Cond.methodLink RL 54 yX8_round ∈ wsU := ut2 (List.mem_of_getElem? (i := 164) rfl) rfl
theorem uw1057 : Cond.instanceMethod yX8_round ∈ wsU := ut2 (List.mem_of_getElem? (i := 165) rfl) rfl
theorem uw1058 : Cond.selects RX8 yX8_round yX8_round ∈ wsU := ut2 (List.mem_of_getElem? (i := 166) rfl) rfl
theorem uw1059 : Cond.code yX8_round cX8_round 3 (some .int) ∈ wsU := ut2 (List.mem_of_getElem? (i := 167) rfl) rfl
theorem uw1060 : Cond.methodLink RL 57 yX9_round ∈ wsU := ut5 (List.mem_of_getElem? (i := 143) rfl) rfl
theorem uw1061 : Cond.instanceMethod yX9_round ∈ wsU := ut5 (List.mem_of_getElem? (i := 144) rfl) rfl
theorem uw1062 : Cond.selects RX9 yX9_round yX9_round ∈ wsU := ut5 (List.mem_of_getElem? (i := 145) rfl) rfl
theorem uw1063 : Cond.code yX9_round cX9_round 4 (some .int) ∈ wsU := ut5 (List.mem_of_getElem? (i := 146) rfl) rfl
theorem uw1064 : Cond.methodLink RL 58 yX8_over ∈ wsU := ut2 (List.mem_of_getElem? (i := 187) rfl) rfl
theorem uw1065 : Cond.instanceMethod yX8_over ∈ wsU := ut2 (List.mem_of_getElem? (i := 188) rfl) rfl
theorem uw1066 : Cond.selects RX8 yX8_over yX8_over ∈ wsU := ut2 (List.mem_of_getElem? (i := 189) rfl) rfl
theorem uw1067 : Cond.code yX8_over cX8_over 3 (some .int) ∈ wsU := ut2 (List.mem_of_getElem? (i := 190) rfl) rfl
theorem uw1068 : Cond.methodLink RL 61 yX9_over ∈ wsU := ut5 (List.mem_of_getElem? (i := 148) rfl) rfl
theorem uw1069 : Cond.instanceMethod yX9_over ∈ wsU := ut5 (List.mem_of_getElem? (i := 149) rfl) rfl
theorem uw1070 : Cond.selects RX9 yX9_over yX9_over ∈ wsU := ut5 (List.mem_of_getElem? (i := 150) rfl) rfl
theorem uw1071 : Cond.code yX9_over cX9_over 4 (some .int) ∈ wsU := ut5 (List.mem_of_getElem? (i := 151) rfl) rfl
theorem uw1072 : Cond.methodLink RL 62 yX8_sum ∈ wsU := ut2 (List.mem_of_getElem? (i := 200) rfl) rfl
theorem uw1073 : Cond.instanceMethod yX8_sum ∈ wsU := ut2 (List.mem_of_getElem? (i := 201) rfl) rfl
theorem uw1074 : Cond.selects RX8 yX8_sum yX8_sum ∈ wsU := ut2 (List.mem_of_getElem? (i := 202) rfl) rfl
theorem uw1075 : Cond.code yX8_sum cX8_sum 2 (some .int) ∈ wsU := ut2 (List.mem_of_getElem? (i := 203) rfl) rfl
theorem uw1076 : Cond.methodLink RL 66 yX9_sum ∈ wsU := ut5 (List.mem_of_getElem? (i := 156) rfl) rfl
theorem uw1077 : Cond.instanceMethod yX9_sum ∈ wsU := ut5 (List.mem_of_getElem? (i := 157) rfl) rfl
theorem uw1078 : Cond.selects RX9 yX9_sum yX9_sum ∈ wsU := ut5 (List.mem_of_getElem? (i := 158) rfl) rfl
theorem uw1079 : Cond.code yX9_sum cX9_sum 3 (some .int) ∈ wsU := ut5 (List.mem_of_getElem? (i := 159) rfl) rfl
theorem uw1080 : Cond.methodLink RL 67 yX8_roundOf ∈ wsU := ut3 (List.mem_of_getElem? (i := 25) rfl) rfl
theorem uw1081 : Cond.instanceMethod yX8_roundOf ∈ wsU := ut3 (List.mem_of_getElem? (i := 26) rfl) rfl
theorem uw1082 : Cond.selects RX8 yX8_roundOf yX8_roundOf ∈ wsU := ut3 (List.mem_of_getElem? (i := 27) rfl) rfl
theorem uw1083 : Cond.code yX8_roundOf cX8_roundOf 4 (some .int) ∈ wsU := ut3 (List.mem_of_getElem? (i := 28) rfl) rfl
theorem uw1084 : Cond.methodLink RL 70 yX9_roundOf ∈ wsU := ut5 (List.mem_of_getElem? (i := 196) rfl) rfl
theorem uw1085 : Cond.instanceMethod yX9_roundOf ∈ wsU := ut5 (List.mem_of_getElem? (i := 197) rfl) rfl
theorem uw1086 : Cond.selects RX9 yX9_roundOf yX9_roundOf ∈ wsU := ut5 (List.mem_of_getElem? (i := 198) rfl) rfl
theorem uw1087 : Cond.code yX9_roundOf cX9_roundOf 3 (some .int) ∈ wsU := ut5 (List.mem_of_getElem? (i := 199) rfl) rfl
theorem uw1088 : Cond.methodLink RL 71 yX8_as ∈ wsU := ut3 (List.mem_of_getElem? (i := 30) rfl) rfl
theorem uw1089 : Cond.instanceMethod yX8_as ∈ wsU := ut3 (List.mem_of_getElem? (i := 31) rfl) rfl
theorem uw1090 : Cond.selects RX8 yX8_as yX8_as ∈ wsU := ut3 (List.mem_of_getElem? (i := 32) rfl) rfl
theorem uw1091 : Cond.code yX8_as cX8_as 3 (some .int) ∈ wsU := ut3 (List.mem_of_getElem? (i := 33) rfl) rfl
theorem uw1092 : Cond.methodLink RL 74 yX9_as ∈ wsU := ut5 (List.mem_of_getElem? (i := 202) rfl) rfl
theorem uw1093 : Cond.instanceMethod yX9_as ∈ wsU := ut5 (List.mem_of_getElem? (i := 203) rfl) rfl
theorem uw1094 : Cond.selects RX9 yX9_as yX9_as ∈ wsU := ut5 (List.mem_of_getElem? (i := 204) rfl) rfl
theorem uw1095 : Cond.code yX9_as cX9_as 5 (some .int) ∈ wsU := ut5 (List.mem_of_getElem? (i := 205) rfl) rfl
theorem uw1096 : Cond.methodLink RL 75 yX8_live ∈ wsU := ut3 (List.mem_of_getElem? (i := 40) rfl) rfl
theorem uw1097 : Cond.instanceMethod yX8_live ∈ wsU := ut3 (List.mem_of_getElem? (i := 41) rfl) rfl
theorem uw1098 : Cond.selects RX8 yX8_live yX8_live ∈ wsU := ut3 (List.mem_of_getElem? (i := 42) rfl) rfl
theorem uw1099 : Cond.code yX8_live cX8_live 2 (some .int) ∈ wsU := ut3 (List.mem_of_getElem? (i := 43) rfl) rfl
theorem uw1100 : Cond.methodLink RL 78 yX9_live ∈ wsU := ut5 (List.mem_of_getElem? (i := 207) rfl) rfl
theorem uw1101 : Cond.instanceMethod yX9_live ∈ wsU := ut5 (List.mem_of_getElem? (i := 208) rfl) rfl
theorem uw1102 : Cond.selects RX9 yX9_live yX9_live ∈ wsU := ut5 (List.mem_of_getElem? (i := 209) rfl) rfl
theorem uw1103 : Cond.code yX9_live cX9_live 2 (some .int) ∈ wsU := ut5 (List.mem_of_getElem? (i := 210) rfl) rfl
theorem uw1104 : Cond.methodLink RL 79 yX8_trip ∈ wsU := ut3 (List.mem_of_getElem? (i := 52) rfl) rfl
theorem uw1105 : Cond.instanceMethod yX8_trip ∈ wsU := ut3 (List.mem_of_getElem? (i := 53) rfl) rfl
theorem uw1106 : Cond.selects RX8 yX8_trip yX8_trip ∈ wsU := ut3 (List.mem_of_getElem? (i := 54) rfl) rfl
theorem uw1107 : Cond.code yX8_trip cX8_trip 2 (some .int) ∈ wsU := ut3 (List.mem_of_getElem? (i := 55) rfl) rfl
theorem uw1108 : Cond.methodLink RL 82 yX9_trip ∈ wsU := ut5 (List.mem_of_getElem? (i := 219) rfl) rfl
theorem uw1109 : Cond.instanceMethod yX9_trip ∈ wsU := ut5 (List.mem_of_getElem? (i := 220) rfl) rfl
theorem uw1110 : Cond.selects RX9 yX9_trip yX9_trip ∈ wsU := ut5 (List.mem_of_getElem? (i := 221) rfl) rfl
theorem uw1111 : Cond.code yX9_trip cX9_trip 3 (some .int) ∈ wsU := ut5 (List.mem_of_getElem? (i := 222) rfl) rfl
theorem uw1112 : Cond.methodLink RL 83 yX8_meet ∈ wsU := ut3 (List.mem_of_getElem? (i := 57) rfl) rfl
theorem uw1113 : Cond.instanceMethod yX8_meet ∈ wsU := ut3 (List.mem_of_getElem? (i := 58) rfl) rfl
theorem uw1114 : Cond.selects RX8 yX8_meet yX8_meet ∈ wsU := ut3 (List.mem_of_getElem? (i := 59) rfl) rfl
theorem uw1115 : Cond.code yX8_meet cX8_meet 5 (some .int) ∈ wsU := ut3 (List.mem_of_getElem? (i := 60) rfl) rfl
theorem uw1116 : Cond.methodLink RL 86 yX9_meet ∈ wsU := ut5 (List.mem_of_getElem? (i := 223) rfl) rfl
theorem uw1117 : Cond.instanceMethod yX9_meet ∈ wsU := ut5 (List.mem_of_getElem? (i := 224) rfl) rfl
theorem uw1118 : Cond.selects RX9 yX9_meet yX9_meet ∈ wsU := ut5 (List.mem_of_getElem? (i := 225) rfl) rfl
theorem uw1119 : Cond.code yX9_meet cX9_meet 8 (some .int) ∈ wsU := ut5 (List.mem_of_getElem? (i := 226) rfl) rfl
theorem uw1120 : Cond.methodLink RL 87 yX8_fit ∈ wsU := ut3 (List.mem_of_getElem? (i := 62) rfl) rfl
theorem uw1121 : Cond.instanceMethod yX8_fit ∈ wsU := ut3 (List.mem_of_getElem? (i := 63) rfl) rfl
theorem uw1122 : Cond.selects RX8 yX8_fit yX8_fit ∈ wsU := ut3 (List.mem_of_getElem? (i := 64) rfl) rfl
theorem uw1123 : Cond.code yX8_fit cX8_fit 1 (some .int) ∈ wsU := ut3 (List.mem_of_getElem? (i := 65) rfl) rfl
theorem uw1124 : Cond.methodLink RL 90 yX9_fit ∈ wsU := ut5 (List.mem_of_getElem? (i := 231) rfl) rfl
theorem uw1125 : Cond.instanceMethod yX9_fit ∈ wsU := ut5 (List.mem_of_getElem? (i := 232) rfl) rfl
theorem uw1126 : Cond.selects RX9 yX9_fit yX9_fit ∈ wsU := ut5 (List.mem_of_getElem? (i := 233) rfl) rfl
theorem uw1127 : Cond.code yX9_fit cX9_fit 1 (some .int) ∈ wsU := ut5 (List.mem_of_getElem? (i := 234) rfl) rfl
theorem uw1128 : Cond.methodLink RL 91 yX8_height ∈ wsU := ut3 (List.mem_of_getElem? (i := 87) rfl) rfl
theorem uw1129 : Cond.instanceMethod yX8_height ∈ wsU := ut3 (List.mem_of_getElem? (i := 88) rfl) rfl
theorem uw1130 : Cond.selects RX8 yX8_height yX8_height ∈ wsU := ut3 (List.mem_of_getElem? (i := 89) rfl) rfl
theorem uw1131 : Cond.code yX8_height cX8_height 2 (some .int) ∈ wsU := ut3 (List.mem_of_getElem? (i := 90) rfl) rfl
theorem uw1132 : Cond.methodLink RL 94 yX9_height ∈ wsU := ut6 (List.mem_of_getElem? (i := 7) rfl) rfl
theorem uw1133 : Cond.instanceMethod yX9_height ∈ wsU := ut6 (List.mem_of_getElem? (i := 8) rfl) rfl
theorem uw1134 : Cond.selects RX9 yX9_height yX9_height ∈ wsU := ut6 (List.mem_of_getElem? (i := 9) rfl) rfl
theorem uw1135 : Cond.code yX9_height cX9_height 2 (some .int) ∈ wsU := ut6 (List.mem_of_getElem? (i := 10) rfl) rfl
theorem uw1136 : Cond.methodLink RL 95 yX8_paper ∈ wsU := ut3 (List.mem_of_getElem? (i := 91) rfl) rfl
theorem uw1137 : Cond.instanceMethod yX8_paper ∈ wsU := ut3 (List.mem_of_getElem? (i := 92) rfl) rfl
theorem uw1138 : Cond.selects RX8 yX8_paper yX8_paper ∈ wsU := ut3 (List.mem_of_getElem? (i := 93) rfl) rfl
theorem uw1139 : Cond.code yX8_paper cX8_paper 3 (some .int) ∈ wsU := ut3 (List.mem_of_getElem? (i := 94) rfl) rfl
theorem uw1140 : Cond.methodLink RL 98 yX9_paper ∈ wsU := ut6 (List.mem_of_getElem? (i := 11) rfl) rfl
theorem uw1141 : Cond.instanceMethod yX9_paper ∈ wsU := ut6 (List.mem_of_getElem? (i := 12) rfl) rfl
theorem uw1142 : Cond.selects RX9 yX9_paper yX9_paper ∈ wsU := ut6 (List.mem_of_getElem? (i := 13) rfl) rfl
theorem uw1143 : Cond.code yX9_paper cX9_paper 3 (some .int) ∈ wsU := ut6 (List.mem_of_getElem? (i := 14) rfl) rfl
theorem uw1144 : Cond.methodLink RL 99 yX8_worst ∈ wsU := ut3 (List.mem_of_getElem? (i := 99) rfl) rfl
theorem uw1145 : Cond.instanceMethod yX8_worst ∈ wsU := ut3 (List.mem_of_getElem? (i := 100) rfl) rfl
theorem uw1146 : Cond.selects RX8 yX8_worst yX8_worst ∈ wsU := ut3 (List.mem_of_getElem? (i := 101) rfl) rfl
theorem uw1147 : Cond.code yX8_worst cX8_worst 2 (some .int) ∈ wsU := ut3 (List.mem_of_getElem? (i := 102) rfl) rfl
theorem uw1148 : Cond.methodLink RL 102 yX9_worst ∈ wsU := ut6 (List.mem_of_getElem? (i := 15) rfl) rfl
theorem uw1149 : Cond.instanceMethod yX9_worst ∈ wsU := ut6 (List.mem_of_getElem? (i := 16) rfl) rfl
theorem uw1150 : Cond.selects RX9 yX9_worst yX9_worst ∈ wsU := ut6 (List.mem_of_getElem? (i := 17) rfl) rfl
theorem uw1151 : Cond.code yX9_worst cX9_worst 5 (some .int) ∈ wsU := ut6 (List.mem_of_getElem? (i := 18) rfl) rfl
theorem uw1152 : Cond.methodLink RL 103 yX8_walk ∈ wsU := ut3 (List.mem_of_getElem? (i := 111) rfl) rfl
theorem uw1153 : Cond.instanceMethod yX8_walk ∈ wsU := ut3 (List.mem_of_getElem? (i := 112) rfl) rfl
theorem uw1154 : Cond.selects RX8 yX8_walk yX8_walk ∈ wsU := ut3 (List.mem_of_getElem? (i := 113) rfl) rfl
theorem uw1155 : Cond.code yX8_walk cX8_walk 6 (some .int) ∈ wsU := ut3 (List.mem_of_getElem? (i := 114) rfl) rfl
theorem uw1156 : Cond.methodLink RL 106 yX9_walk ∈ wsU := ut6 (List.mem_of_getElem? (i := 19) rfl) rfl
theorem uw1157 : Cond.instanceMethod yX9_walk ∈ wsU := ut6 (List.mem_of_getElem? (i := 20) rfl) rfl
theorem uw1158 : Cond.selects RX9 yX9_walk yX9_walk ∈ wsU := ut6 (List.mem_of_getElem? (i := 21) rfl) rfl
theorem uw1159 : Cond.code yX9_walk cX9_walk 5 (some .int) ∈ wsU := ut6 (List.mem_of_getElem? (i := 22) rfl) rfl
theorem uw1160 : Cond.methodLink RL 107 yX8_on ∈ wsU := ut3 (List.mem_of_getElem? (i := 119) rfl) rfl
theorem uw1161 : Cond.instanceMethod yX8_on ∈ wsU := ut3 (List.mem_of_getElem? (i := 120) rfl) rfl
theorem uw1162 : Cond.selects RX8 yX8_on yX8_on ∈ wsU := ut3 (List.mem_of_getElem? (i := 121) rfl) rfl
theorem uw1163 : Cond.code yX8_on cX8_on 3 (some .int) ∈ wsU := ut3 (List.mem_of_getElem? (i := 122) rfl) rfl
theorem uw1164 : Cond.methodLink RL 110 yX9_on ∈ wsU := ut6 (List.mem_of_getElem? (i := 32) rfl) rfl
theorem uw1165 : Cond.instanceMethod yX9_on ∈ wsU := ut6 (List.mem_of_getElem? (i := 33) rfl) rfl
theorem uw1166 : Cond.selects RX9 yX9_on yX9_on ∈ wsU := ut6 (List.mem_of_getElem? (i := 34) rfl) rfl
theorem uw1167 : Cond.code yX9_on cX9_on 4 (some .int) ∈ wsU := ut6 (List.mem_of_getElem? (i := 35) rfl) rfl
theorem uw1168 : Cond.methodLink RL 111 yX8_learn ∈ wsU := ut3 (List.mem_of_getElem? (i := 124) rfl) rfl
theorem uw1169 : Cond.instanceMethod yX8_learn ∈ wsU := ut3 (List.mem_of_getElem? (i := 125) rfl) rfl
theorem uw1170 : Cond.selects RX8 yX8_learn yX8_learn ∈ wsU := ut3 (List.mem_of_getElem? (i := 126) rfl) rfl
theorem uw1171 : Cond.code yX8_learn cX8_learn 1 (some .int) ∈ wsU := ut3 (List.mem_of_getElem? (i := 127) rfl) rfl
theorem uw1172 : Cond.methodLink RL 114 yX9_learn ∈ wsU := ut6 (List.mem_of_getElem? (i := 36) rfl) rfl
theorem uw1173 : Cond.instanceMethod yX9_learn ∈ wsU := ut6 (List.mem_of_getElem? (i := 37) rfl) rfl
theorem uw1174 : Cond.selects RX9 yX9_learn yX9_learn ∈ wsU := ut6 (List.mem_of_getElem? (i := 38) rfl) rfl
theorem uw1175 : Cond.code yX9_learn cX9_learn 1 (some .int) ∈ wsU := ut6 (List.mem_of_getElem? (i := 39) rfl) rfl
theorem uw1176 : Cond.methodLink RL 115 yX8_lies ∈ wsU := ut3 (List.mem_of_getElem? (i := 149) rfl) rfl
theorem uw1177 : Cond.instanceMethod yX8_lies ∈ wsU := ut3 (List.mem_of_getElem? (i := 150) rfl) rfl
theorem uw1178 : Cond.selects RX8 yX8_lies yX8_lies ∈ wsU := ut3 (List.mem_of_getElem? (i := 151) rfl) rfl
theorem uw1179 : Cond.code yX8_lies cX8_lies 1 (some .int) ∈ wsU := ut3 (List.mem_of_getElem? (i := 152) rfl) rfl
theorem uw1180 : Cond.methodLink RL 118 yX9_lies ∈ wsU := ut6 (List.mem_of_getElem? (i := 56) rfl) rfl
theorem uw1181 : Cond.instanceMethod yX9_lies ∈ wsU := ut6 (List.mem_of_getElem? (i := 57) rfl) rfl
theorem uw1182 : Cond.selects RX9 yX9_lies yX9_lies ∈ wsU := ut6 (List.mem_of_getElem? (i := 58) rfl) rfl
theorem uw1183 : Cond.code yX9_lies cX9_lies 2 (some .int) ∈ wsU := ut6 (List.mem_of_getElem? (i := 59) rfl) rfl
theorem uw1184 : Cond.methodLink RL 119 yX8_known ∈ wsU := ut3 (List.mem_of_getElem? (i := 165) rfl) rfl
theorem uw1185 : Cond.instanceMethod yX8_known ∈ wsU := ut3 (List.mem_of_getElem? (i := 166) rfl) rfl
theorem uw1186 : Cond.selects RX8 yX8_known yX8_known ∈ wsU := ut3 (List.mem_of_getElem? (i := 167) rfl) rfl
theorem uw1187 : Cond.code yX8_known cX8_known 2 (some .int) ∈ wsU := ut3 (List.mem_of_getElem? (i := 168) rfl) rfl
theorem uw1188 : Cond.methodLink RL 122 yX9_known ∈ wsU := ut6 (List.mem_of_getElem? (i := 68) rfl) rfl
theorem uw1189 : Cond.methodLink RL 123 yX8_ask ∈ wsU := ut3 (List.mem_of_getElem? (i := 181) rfl) rfl
theorem uw1190 : Cond.instanceMethod yX8_ask ∈ wsU := ut3 (List.mem_of_getElem? (i := 182) rfl) rfl
theorem uw1191 : Cond.selects RX8 yX8_ask yX8_ask ∈ wsU := ut3 (List.mem_of_getElem? (i := 183) rfl) rfl
theorem uw1192 : Cond.code yX8_ask cX8_ask 2 (some .int) ∈ wsU := ut3 (List.mem_of_getElem? (i := 184) rfl) rfl
theorem uw1193 : Cond.methodLink RL 126 yX9_ask ∈ wsU := ut6 (List.mem_of_getElem? (i := 76) rfl) rfl
theorem uw1194 : Cond.instanceMethod yX9_ask ∈ wsU := ut6 (List.mem_of_getElem? (i := 77) rfl) rfl
theorem uw1195 : Cond.selects RX9 yX9_ask yX9_ask ∈ wsU := ut6 (List.mem_of_getElem? (i := 78) rfl) rfl
theorem uw1196 : Cond.code yX9_ask cX9_ask 4 (some .int) ∈ wsU := ut6 (List.mem_of_getElem? (i := 79) rfl) rfl
theorem uw1197 : Cond.methodLink RL 127 yX8_saves ∈ wsU := ut3 (List.mem_of_getElem? (i := 189) rfl) rfl
theorem uw1198 : Cond.instanceMethod yX8_saves ∈ wsU := ut3 (List.mem_of_getElem? (i := 190) rfl) rfl
theorem uw1199 : Cond.selects RX8 yX8_saves yX8_saves ∈ wsU := ut3 (List.mem_of_getElem? (i := 191) rfl) rfl
theorem uw1200 : Cond.code yX8_saves cX8_saves 4 (some .int) ∈ wsU := ut3 (List.mem_of_getElem? (i := 192) rfl) rfl
theorem uw1201 : Cond.methodLink RL 130 yX9_saves ∈ wsU := ut6 (List.mem_of_getElem? (i := 80) rfl) rfl
theorem uw1202 : Cond.instanceMethod yX9_saves ∈ wsU := ut6 (List.mem_of_getElem? (i := 81) rfl) rfl
theorem uw1203 : Cond.selects RX9 yX9_saves yX9_saves ∈ wsU := ut6 (List.mem_of_getElem? (i := 82) rfl) rfl
theorem uw1204 : Cond.code yX9_saves cX9_saves 5 (some .int) ∈ wsU := ut6 (List.mem_of_getElem? (i := 83) rfl) rfl
theorem uw1205 : Cond.methodLink RL 131 yX8_mend ∈ wsU := ut3 (List.mem_of_getElem? (i := 203) rfl) rfl
theorem uw1206 : Cond.instanceMethod yX8_mend ∈ wsU := ut3 (List.mem_of_getElem? (i := 204) rfl) rfl
theorem uw1207 : Cond.selects RX8 yX8_mend yX8_mend ∈ wsU := ut3 (List.mem_of_getElem? (i := 205) rfl) rfl
theorem uw1208 : Cond.code yX8_mend cX8_mend 3 (some .int) ∈ wsU := ut3 (List.mem_of_getElem? (i := 206) rfl) rfl
theorem uw1209 : Cond.methodLink RL 134 yX9_mend ∈ wsU := ut6 (List.mem_of_getElem? (i := 92) rfl) rfl
theorem uw1210 : Cond.instanceMethod yX9_mend ∈ wsU := ut6 (List.mem_of_getElem? (i := 93) rfl) rfl
theorem uw1211 : Cond.selects RX9 yX9_mend yX9_mend ∈ wsU := ut6 (List.mem_of_getElem? (i := 94) rfl) rfl
theorem uw1212 : Cond.code yX9_mend cX9_mend 7 (some .int) ∈ wsU := ut6 (List.mem_of_getElem? (i := 95) rfl) rfl
theorem uw1213 : Cond.methodLink RL 135 yX8_goes ∈ wsU := ut3 (List.mem_of_getElem? (i := 211) rfl) rfl
theorem uw1214 : Cond.instanceMethod yX8_goes ∈ wsU := ut3 (List.mem_of_getElem? (i := 212) rfl) rfl
theorem uw1215 : Cond.selects RX8 yX8_goes yX8_goes ∈ wsU := ut3 (List.mem_of_getElem? (i := 213) rfl) rfl
theorem uw1216 : Cond.code yX8_goes cX8_goes 4 (some .int) ∈ wsU := ut3 (List.mem_of_getElem? (i := 214) rfl) rfl
theorem uw1217 : Cond.methodLink RL 138 yX9_goes ∈ wsU := ut6 (List.mem_of_getElem? (i := 96) rfl) rfl
theorem uw1218 : Cond.instanceMethod yX9_goes ∈ wsU := ut6 (List.mem_of_getElem? (i := 97) rfl) rfl
theorem uw1219 : Cond.selects RX9 yX9_goes yX9_goes ∈ wsU := ut6 (List.mem_of_getElem? (i := 98) rfl) rfl
theorem uw1220 : Cond.code yX9_goes cX9_goes 5 (some .int) ∈ wsU := ut6 (List.mem_of_getElem? (i := 99) rfl) rfl
theorem uw1221 : Cond.methodLink RL 139 yX8_hollow ∈ wsU := ut3 (List.mem_of_getElem? (i := 225) rfl) rfl
theorem uw1222 : Cond.instanceMethod yX8_hollow ∈ wsU := ut3 (List.mem_of_getElem? (i := 226) rfl) rfl
theorem uw1223 : Cond.selects RX8 yX8_hollow yX8_hollow ∈ wsU := ut3 (List.mem_of_getElem? (i := 227) rfl) rfl
theorem uw1224 : Cond.code yX8_hollow cX8_hollow 1 (some .int) ∈ wsU := ut3 (List.mem_of_getElem? (i := 228) rfl) rfl
theorem uw1225 : Cond.methodLink RL 142 yX9_hollow ∈ wsU := ut6 (List.mem_of_getElem? (i := 105) rfl) rfl
theorem uw1226 : Cond.instanceMethod yX9_hollow ∈ wsU := ut6 (List.mem_of_getElem? (i := 106) rfl) rfl
theorem uw1227 : Cond.selects RX9 yX9_hollow yX9_hollow ∈ wsU := ut6 (List.mem_of_getElem? (i := 107) rfl) rfl
theorem uw1228 : Cond.code yX9_hollow cX9_hollow 5 (some .int) ∈ wsU := ut6 (List.mem_of_getElem? (i := 108) rfl) rfl
theorem uw1229 : Cond.methodLink RL 143 yX8_feed ∈ wsU := ut3 (List.mem_of_getElem? (i := 234) rfl) rfl
theorem uw1230 : Cond.instanceMethod yX8_feed ∈ wsU := ut3 (List.mem_of_getElem? (i := 235) rfl) rfl
theorem uw1231 : Cond.selects RX8 yX8_feed yX8_feed ∈ wsU := ut3 (List.mem_of_getElem? (i := 236) rfl) rfl
theorem uw1232 : Cond.code yX8_feed cX8_feed 4 (some .int) ∈ wsU := ut3 (List.mem_of_getElem? (i := 237) rfl) rfl
theorem uw1233 : Cond.methodLink RL 146 yX9_feed ∈ wsU := ut6 (List.mem_of_getElem? (i := 109) rfl) rfl
theorem uw1234 : Cond.instanceMethod yX9_feed ∈ wsU := ut6 (List.mem_of_getElem? (i := 110) rfl) rfl
theorem uw1235 : Cond.selects RX9 yX9_feed yX9_feed ∈ wsU := ut6 (List.mem_of_getElem? (i := 111) rfl) rfl
theorem uw1236 : Cond.code yX9_feed cX9_feed 4 (some .int) ∈ wsU := ut6 (List.mem_of_getElem? (i := 112) rfl) rfl
theorem uw1237 : Cond.methodLink RL 147 yX8_wipe ∈ wsU := ut4 (List.mem_of_getElem? (i := 2) rfl) rfl
theorem uw1238 : Cond.instanceMethod yX8_wipe ∈ wsU := ut4 (List.mem_of_getElem? (i := 3) rfl) rfl
theorem uw1239 : Cond.selects RX8 yX8_wipe yX8_wipe ∈ wsU := ut4 (List.mem_of_getElem? (i := 4) rfl) rfl
theorem uw1240 : Cond.code yX8_wipe cX8_wipe 2 (some .int) ∈ wsU := ut4 (List.mem_of_getElem? (i := 5) rfl) rfl
theorem uw1241 : Cond.methodLink RL 150 yX9_wipe ∈ wsU := ut6 (List.mem_of_getElem? (i := 114) rfl) rfl
theorem uw1242 : Cond.instanceMethod yX9_wipe ∈ wsU := ut6 (List.mem_of_getElem? (i := 115) rfl) rfl
theorem uw1243 : Cond.selects RX9 yX9_wipe yX9_wipe ∈ wsU := ut6 (List.mem_of_getElem? (i := 116) rfl) rfl
theorem uw1244 : Cond.code yX9_wipe cX9_wipe 2 (some .int) ∈ wsU := ut6 (List.mem_of_getElem? (i := 117) rfl) rfl
theorem uw1245 : Cond.methodLink RL 151 yX8_land ∈ wsU := ut4 (List.mem_of_getElem? (i := 6) rfl) rfl
theorem uw1246 : Cond.instanceMethod yX8_land ∈ wsU := ut4 (List.mem_of_getElem? (i := 7) rfl) rfl
theorem uw1247 : Cond.selects RX8 yX8_land yX8_land ∈ wsU := ut4 (List.mem_of_getElem? (i := 8) rfl) rfl
theorem uw1248 : Cond.code yX8_land cX8_land 2 (some .int) ∈ wsU := ut4 (List.mem_of_getElem? (i := 9) rfl) rfl
theorem uw1249 : Cond.methodLink RL 154 yX9_land ∈ wsU := ut6 (List.mem_of_getElem? (i := 118) rfl) rfl
theorem uw1250 : Cond.instanceMethod yX9_land ∈ wsU := ut6 (List.mem_of_getElem? (i := 119) rfl) rfl
theorem uw1251 : Cond.selects RX9 yX9_land yX9_land ∈ wsU := ut6 (List.mem_of_getElem? (i := 120) rfl) rfl
theorem uw1252 : Cond.code yX9_land cX9_land 2 (some .int) ∈ wsU := ut6 (List.mem_of_getElem? (i := 121) rfl) rfl
theorem uw1253 : Cond.methodLink RL 155 yX8_sheet ∈ wsU := ut4 (List.mem_of_getElem? (i := 126) rfl) rfl
theorem uw1254 : Cond.instanceMethod yX8_sheet ∈ wsU := ut4 (List.mem_of_getElem? (i := 127) rfl) rfl
theorem uw1255 : Cond.selects RX8 yX8_sheet yX8_sheet ∈ wsU := ut4 (List.mem_of_getElem? (i := 128) rfl) rfl
theorem uw1256 : Cond.code yX8_sheet cX8_sheet 4 (some .int) ∈ wsU := ut4 (List.mem_of_getElem? (i := 129) rfl) rfl
theorem uw1257 : Cond.methodLink RL 158 yX9_sheet ∈ wsU := ut6 (List.mem_of_getElem? (i := 176) rfl) rfl
theorem uw1258 : Cond.instanceMethod yX9_sheet ∈ wsU := ut6 (List.mem_of_getElem? (i := 177) rfl) rfl
theorem uw1259 : Cond.selects RX9 yX9_sheet yX9_sheet ∈ wsU := ut6 (List.mem_of_getElem? (i := 178) rfl) rfl
theorem uw1260 : Cond.code yX9_sheet cX9_sheet 5 (some .int) ∈ wsU := ut6 (List.mem_of_getElem? (i := 179) rfl) rfl
theorem uw1261 : Cond.constantLong RL 159 4294967295 ∈ wsU := ut6 (List.mem_of_getElem? (i := 230) rfl) rfl
theorem uw1262 : Cond.methodLink RL 161 yX8_write ∈ wsU := ut4 (List.mem_of_getElem? (i := 138) rfl) rfl
theorem uw1263 : Cond.instanceMethod yX8_write ∈ wsU := ut4 (List.mem_of_getElem? (i := 139) rfl) rfl
theorem uw1264 : Cond.selects RX8 yX8_write yX8_write ∈ wsU := ut4 (List.mem_of_getElem? (i := 140) rfl) rfl
theorem uw1265 : Cond.code yX8_write cX8_write 8 (some .long) ∈ wsU := ut4 (List.mem_of_getElem? (i := 141) rfl) rfl
theorem uw1266 : Cond.methodLink RL 165 yX9_write ∈ wsU := ut6 (List.mem_of_getElem? (i := 185) rfl) rfl
theorem uw1267 : Cond.instanceMethod yX9_write ∈ wsU := ut6 (List.mem_of_getElem? (i := 186) rfl) rfl
theorem uw1268 : Cond.selects RX9 yX9_write yX9_write ∈ wsU := ut6 (List.mem_of_getElem? (i := 187) rfl) rfl
theorem uw1269 : Cond.code yX9_write cX9_write 8 (some .long) ∈ wsU := ut6 (List.mem_of_getElem? (i := 188) rfl) rfl
theorem uw1270 : Cond.methodLink RL 166 yX8_copy ∈ wsU := ut4 (List.mem_of_getElem? (i := 151) rfl) rfl
theorem uw1271 : Cond.instanceMethod yX8_copy ∈ wsU := ut4 (List.mem_of_getElem? (i := 152) rfl) rfl
theorem uw1272 : Cond.selects RX8 yX8_copy yX8_copy ∈ wsU := ut4 (List.mem_of_getElem? (i := 153) rfl) rfl
theorem uw1273 : Cond.code yX8_copy cX8_copy 8 (some .int) ∈ wsU := ut4 (List.mem_of_getElem? (i := 154) rfl) rfl
theorem uw1274 : Cond.methodLink RL 170 yX9_copy ∈ wsU := ut6 (List.mem_of_getElem? (i := 197) rfl) rfl
theorem uw1275 : Cond.instanceMethod yX9_copy ∈ wsU := ut6 (List.mem_of_getElem? (i := 198) rfl) rfl
theorem uw1276 : Cond.selects RX9 yX9_copy yX9_copy ∈ wsU := ut6 (List.mem_of_getElem? (i := 199) rfl) rfl
theorem uw1277 : Cond.code yX9_copy cX9_copy 7 (some .int) ∈ wsU := ut6 (List.mem_of_getElem? (i := 200) rfl) rfl
theorem uw1278 : Cond.methodLink RL 171 yX8_lays ∈ wsU := ut4 (List.mem_of_getElem? (i := 160) rfl) rfl
theorem uw1279 : Cond.instanceMethod yX8_lays ∈ wsU := ut4 (List.mem_of_getElem? (i := 161) rfl) rfl
theorem uw1280 : Cond.selects RX8 yX8_lays yX8_lays ∈ wsU := ut4 (List.mem_of_getElem? (i := 162) rfl) rfl
theorem uw1281 : Cond.code yX8_lays cX8_lays 3 (some .int) ∈ wsU := ut4 (List.mem_of_getElem? (i := 163) rfl) rfl
theorem uw1282 : Cond.methodLink RL 174 yX9_lays ∈ wsU := ut6 (List.mem_of_getElem? (i := 201) rfl) rfl
theorem uw1283 : Cond.instanceMethod yX9_lays ∈ wsU := ut6 (List.mem_of_getElem? (i := 202) rfl) rfl
theorem uw1284 : Cond.selects RX9 yX9_lays yX9_lays ∈ wsU := ut6 (List.mem_of_getElem? (i := 203) rfl) rfl
theorem uw1285 : Cond.code yX9_lays cX9_lays 9 (some .int) ∈ wsU := ut6 (List.mem_of_getElem? (i := 204) rfl) rfl
theorem uw1286 : Cond.methodLink RL 175 yX8_read ∈ wsU := ut4 (List.mem_of_getElem? (i := 170) rfl) rfl
theorem uw1287 : Cond.instanceMethod yX8_read ∈ wsU := ut4 (List.mem_of_getElem? (i := 171) rfl) rfl
theorem uw1288 : Cond.selects RX8 yX8_read yX8_read ∈ wsU := ut4 (List.mem_of_getElem? (i := 172) rfl) rfl
theorem uw1289 : Cond.code yX8_read cX8_read 2 (some .int) ∈ wsU := ut4 (List.mem_of_getElem? (i := 173) rfl) rfl
theorem uw1290 : Cond.methodLink RL 178 yX9_read ∈ wsU := ut6 (List.mem_of_getElem? (i := 205) rfl) rfl
theorem uw1291 : Cond.instanceMethod yX9_read ∈ wsU := ut6 (List.mem_of_getElem? (i := 206) rfl) rfl
theorem uw1292 : Cond.selects RX9 yX9_read yX9_read ∈ wsU := ut6 (List.mem_of_getElem? (i := 207) rfl) rfl
theorem uw1293 : Cond.code yX9_read cX9_read 9 (some .int) ∈ wsU := ut6 (List.mem_of_getElem? (i := 208) rfl) rfl
theorem uw1294 : Cond.methodLink RL 179 yX8_image ∈ wsU := ut4 (List.mem_of_getElem? (i := 178) rfl) rfl
theorem uw1295 : Cond.instanceMethod yX8_image ∈ wsU := ut4 (List.mem_of_getElem? (i := 179) rfl) rfl
theorem uw1296 : Cond.selects RX8 yX8_image yX8_image ∈ wsU := ut4 (List.mem_of_getElem? (i := 180) rfl) rfl
theorem uw1297 : Cond.code yX8_image cX8_image 1 (some .int) ∈ wsU := ut4 (List.mem_of_getElem? (i := 181) rfl) rfl
theorem uw1298 : Cond.methodLink RL 182 yX9_image ∈ wsU := ut6 (List.mem_of_getElem? (i := 209) rfl) rfl
theorem uw1299 : Cond.instanceMethod yX9_image ∈ wsU := ut6 (List.mem_of_getElem? (i := 210) rfl) rfl
theorem uw1300 : Cond.selects RX9 yX9_image yX9_image ∈ wsU := ut6 (List.mem_of_getElem? (i := 211) rfl) rfl
theorem uw1301 : Cond.code yX9_image cX9_image 2 (some .int) ∈ wsU := ut6 (List.mem_of_getElem? (i := 212) rfl) rfl
theorem uw1302 : Cond.methodLink RL 183 yX8_undo ∈ wsU := ut4 (List.mem_of_getElem? (i := 182) rfl) rfl
theorem uw1303 : Cond.instanceMethod yX8_undo ∈ wsU := ut4 (List.mem_of_getElem? (i := 183) rfl) rfl
theorem uw1304 : Cond.selects RX8 yX8_undo yX8_undo ∈ wsU := ut4 (List.mem_of_getElem? (i := 184) rfl) rfl
theorem uw1305 : Cond.code yX8_undo cX8_undo 1 (some .int) ∈ wsU := ut4 (List.mem_of_getElem? (i := 185) rfl) rfl
theorem uw1306 : Cond.methodLink RL 186 yX9_undo ∈ wsU := ut6 (List.mem_of_getElem? (i := 213) rfl) rfl
theorem uw1307 : Cond.instanceMethod yX9_undo ∈ wsU := ut6 (List.mem_of_getElem? (i := 214) rfl) rfl
theorem uw1308 : Cond.selects RX9 yX9_undo yX9_undo ∈ wsU := ut6 (List.mem_of_getElem? (i := 215) rfl) rfl
theorem uw1309 : Cond.code yX9_undo cX9_undo 2 (some .int) ∈ wsU := ut6 (List.mem_of_getElem? (i := 216) rfl) rfl
theorem uw1310 : Cond.methodLink RL 187 yX8_tear ∈ wsU := ut4 (List.mem_of_getElem? (i := 186) rfl) rfl
theorem uw1311 : Cond.instanceMethod yX8_tear ∈ wsU := ut4 (List.mem_of_getElem? (i := 187) rfl) rfl
theorem uw1312 : Cond.selects RX8 yX8_tear yX8_tear ∈ wsU := ut4 (List.mem_of_getElem? (i := 188) rfl) rfl
theorem uw1313 : Cond.code yX8_tear cX8_tear 2 (some .int) ∈ wsU := ut4 (List.mem_of_getElem? (i := 189) rfl) rfl
theorem uw1314 : Cond.methodLink RL 190 yX9_tear ∈ wsU := ut6 (List.mem_of_getElem? (i := 217) rfl) rfl
theorem uw1315 : Cond.instanceMethod yX9_tear ∈ wsU := ut6 (List.mem_of_getElem? (i := 218) rfl) rfl
theorem uw1316 : Cond.selects RX9 yX9_tear yX9_tear ∈ wsU := ut6 (List.mem_of_getElem? (i := 219) rfl) rfl
theorem uw1317 : Cond.code yX9_tear cX9_tear 2 (some .int) ∈ wsU := ut6 (List.mem_of_getElem? (i := 220) rfl) rfl
theorem uw1318 : Cond.methodLink RL 191 yX8_count ∈ wsU := ut4 (List.mem_of_getElem? (i := 190) rfl) rfl
theorem uw1319 : Cond.instanceMethod yX8_count ∈ wsU := ut4 (List.mem_of_getElem? (i := 191) rfl) rfl
theorem uw1320 : Cond.selects RX8 yX8_count yX8_count ∈ wsU := ut4 (List.mem_of_getElem? (i := 192) rfl) rfl
theorem uw1321 : Cond.code yX8_count cX8_count 2 (some .int) ∈ wsU := ut4 (List.mem_of_getElem? (i := 193) rfl) rfl
theorem uw1322 : Cond.methodLink RL 194 yX9_count ∈ wsU := ut6 (List.mem_of_getElem? (i := 221) rfl) rfl
theorem uw1323 : Cond.instanceMethod yX9_count ∈ wsU := ut6 (List.mem_of_getElem? (i := 222) rfl) rfl
theorem uw1324 : Cond.selects RX9 yX9_count yX9_count ∈ wsU := ut6 (List.mem_of_getElem? (i := 223) rfl) rfl
theorem uw1325 : Cond.code yX9_count cX9_count 4 (some .int) ∈ wsU := ut6 (List.mem_of_getElem? (i := 224) rfl) rfl
theorem uw1326 : Cond.methodLink RL 195 yX8_status ∈ wsU := ut4 (List.mem_of_getElem? (i := 198) rfl) rfl
theorem uw1327 : Cond.instanceMethod yX8_status ∈ wsU := ut4 (List.mem_of_getElem? (i := 199) rfl) rfl
theorem uw1328 : Cond.selects RX8 yX8_status yX8_status ∈ wsU := ut4 (List.mem_of_getElem? (i := 200) rfl) rfl
theorem uw1329 : Cond.code yX8_status cX8_status 4 (some .int) ∈ wsU := ut4 (List.mem_of_getElem? (i := 201) rfl) rfl
theorem uw1330 : Cond.methodLink RL 198 yX9_status ∈ wsU := ut6 (List.mem_of_getElem? (i := 226) rfl) rfl
theorem uw1331 : Cond.instanceMethod yX9_status ∈ wsU := ut6 (List.mem_of_getElem? (i := 227) rfl) rfl
theorem uw1332 : Cond.selects RX9 yX9_status yX9_status ∈ wsU := ut6 (List.mem_of_getElem? (i := 228) rfl) rfl
theorem uw1333 : Cond.code yX9_status cX9_status 4 (some .int) ∈ wsU := ut6 (List.mem_of_getElem? (i := 229) rfl) rfl
theorem kv_L_13 : xWV RL 13 RX8 yX8_place cX8_place 1 (some .int) 0 := ⟨⟨uw984, uw985, uw986, uw414, uw987⟩, by decide +kernel⟩
theorem kv_L_17 : xWV RL 17 RX9 yX9_place cX9_place 1 (some .int) 0 := ⟨⟨uw988, uw989, uw990, uw657, uw991⟩, by decide +kernel⟩
theorem kv_L_18 : xWV RL 18 RX8 yX8_errands cX8_errands 4 (some .int) 2 := ⟨⟨uw992, uw993, uw994, uw414, uw995⟩, by decide +kernel⟩
theorem kv_L_22 : xWV RL 22 RX9 yX9_errands cX9_errands 4 (some .int) 2 := ⟨⟨uw996, uw997, uw998, uw657, uw999⟩, by decide +kernel⟩
theorem kv_L_23 : xWV RL 23 RX8 yX8_way cX8_way 6 (some .int) 4 := ⟨⟨uw1000, uw1001, uw1002, uw414, uw1003⟩, by decide +kernel⟩
theorem kv_L_27 : xWV RL 27 RX9 yX9_way cX9_way 5 (some .int) 4 := ⟨⟨uw1004, uw1005, uw1006, uw657, uw1007⟩, by decide +kernel⟩
theorem kv_L_28 : xWV RL 28 RX8 yX8_wayOf cX8_wayOf 4 (some .int) 3 := ⟨⟨uw1008, uw1009, uw1010, uw414, uw1011⟩, by decide +kernel⟩
theorem kv_L_32 : xWV RL 32 RX9 yX9_wayOf cX9_wayOf 5 (some .int) 3 := ⟨⟨uw1012, uw1013, uw1014, uw657, uw1015⟩, by decide +kernel⟩
theorem kv_L_33 : xWV RL 33 RX8 yX8_shut cX8_shut 5 (some .int) 3 := ⟨⟨uw1016, uw1017, uw1018, uw414, uw1019⟩, by decide +kernel⟩
theorem kv_L_37 : xWV RL 37 RX9 yX9_shut cX9_shut 5 (some .int) 3 := ⟨⟨uw1020, uw1021, uw1022, uw657, uw1023⟩, by decide +kernel⟩
theorem kv_L_38 : xWV RL 38 RX8 yX8_far cX8_far 3 (some .int) 2 := ⟨⟨uw1024, uw1025, uw1026, uw414, uw1027⟩, by decide +kernel⟩
theorem kv_L_41 : xWV RL 41 RX9 yX9_far cX9_far 3 (some .int) 2 := ⟨⟨uw1028, uw1029, uw1030, uw657, uw1031⟩, by decide +kernel⟩
theorem kv_L_42 : xWV RL 42 RX8 yX8_by cX8_by 5 (some .int) 3 := ⟨⟨uw1032, uw1033, uw1034, uw414, uw1035⟩, by decide +kernel⟩
theorem kv_L_45 : xWV RL 45 RX9 yX9_by cX9_by 10 (some .int) 3 := ⟨⟨uw1036, uw1037, uw1038, uw657, uw1039⟩, by decide +kernel⟩
theorem kv_L_46 : xWV RL 46 RX8 yX8_loops cX8_loops 1 (some .int) 0 := ⟨⟨uw1040, uw1041, uw1042, uw414, uw1043⟩, by decide +kernel⟩
theorem kv_L_49 : xWV RL 49 RX9 yX9_loops cX9_loops 5 (some .int) 0 := ⟨⟨uw1044, uw1045, uw1046, uw657, uw1047⟩, by decide +kernel⟩
theorem kv_L_50 : xWV RL 50 RX8 yX8_longer cX8_longer 5 (some .int) 2 := ⟨⟨uw1048, uw1049, uw1050, uw414, uw1051⟩, by decide +kernel⟩
theorem kv_L_53 : xWV RL 53 RX9 yX9_longer cX9_longer 5 (some .int) 2 := ⟨⟨uw1052, uw1053, uw1054, uw657, uw1055⟩, by decide +kernel⟩
theorem kv_L_54 : xWV RL 54 RX8 yX8_round cX8_round 3 (some .int) 2 := ⟨⟨uw1056, uw1057, uw1058, uw414, uw1059⟩, by decide +kernel⟩
theorem kv_L_57 : xWV RL 57 RX9 yX9_round cX9_round 4 (some .int) 2 := ⟨⟨uw1060, uw1061, uw1062, uw657, uw1063⟩, by decide +kernel⟩
theorem kv_L_58 : xWV RL 58 RX8 yX8_over cX8_over 3 (some .int) 2 := ⟨⟨uw1064, uw1065, uw1066, uw414, uw1067⟩, by decide +kernel⟩
theorem kv_L_61 : xWV RL 61 RX9 yX9_over cX9_over 4 (some .int) 2 := ⟨⟨uw1068, uw1069, uw1070, uw657, uw1071⟩, by decide +kernel⟩
theorem kv_L_62 : xWV RL 62 RX8 yX8_sum cX8_sum 2 (some .int) 1 := ⟨⟨uw1072, uw1073, uw1074, uw414, uw1075⟩, by decide +kernel⟩
theorem kv_L_66 : xWV RL 66 RX9 yX9_sum cX9_sum 3 (some .int) 1 := ⟨⟨uw1076, uw1077, uw1078, uw657, uw1079⟩, by decide +kernel⟩
theorem kv_L_67 : xWV RL 67 RX8 yX8_roundOf cX8_roundOf 4 (some .int) 2 := ⟨⟨uw1080, uw1081, uw1082, uw414, uw1083⟩, by decide +kernel⟩
theorem kv_L_70 : xWV RL 70 RX9 yX9_roundOf cX9_roundOf 3 (some .int) 2 := ⟨⟨uw1084, uw1085, uw1086, uw657, uw1087⟩, by decide +kernel⟩
theorem kv_L_71 : xWV RL 71 RX8 yX8_as cX8_as 3 (some .int) 2 := ⟨⟨uw1088, uw1089, uw1090, uw414, uw1091⟩, by decide +kernel⟩
theorem kv_L_74 : xWV RL 74 RX9 yX9_as cX9_as 5 (some .int) 2 := ⟨⟨uw1092, uw1093, uw1094, uw657, uw1095⟩, by decide +kernel⟩
theorem kv_L_75 : xWV RL 75 RX8 yX8_live cX8_live 2 (some .int) 0 := ⟨⟨uw1096, uw1097, uw1098, uw414, uw1099⟩, by decide +kernel⟩
theorem kv_L_78 : xWV RL 78 RX9 yX9_live cX9_live 2 (some .int) 0 := ⟨⟨uw1100, uw1101, uw1102, uw657, uw1103⟩, by decide +kernel⟩
theorem kv_L_79 : xWV RL 79 RX8 yX8_trip cX8_trip 2 (some .int) 1 := ⟨⟨uw1104, uw1105, uw1106, uw414, uw1107⟩, by decide +kernel⟩
theorem kv_L_82 : xWV RL 82 RX9 yX9_trip cX9_trip 3 (some .int) 1 := ⟨⟨uw1108, uw1109, uw1110, uw657, uw1111⟩, by decide +kernel⟩
theorem kv_L_83 : xWV RL 83 RX8 yX8_meet cX8_meet 5 (some .int) 3 := ⟨⟨uw1112, uw1113, uw1114, uw414, uw1115⟩, by decide +kernel⟩
theorem kv_L_86 : xWV RL 86 RX9 yX9_meet cX9_meet 8 (some .int) 3 := ⟨⟨uw1116, uw1117, uw1118, uw657, uw1119⟩, by decide +kernel⟩
theorem kv_L_87 : xWV RL 87 RX8 yX8_fit cX8_fit 1 (some .int) 0 := ⟨⟨uw1120, uw1121, uw1122, uw414, uw1123⟩, by decide +kernel⟩
theorem kv_L_90 : xWV RL 90 RX9 yX9_fit cX9_fit 1 (some .int) 0 := ⟨⟨uw1124, uw1125, uw1126, uw657, uw1127⟩, by decide +kernel⟩
theorem kv_L_91 : xWV RL 91 RX8 yX8_height cX8_height 2 (some .int) 1 := ⟨⟨uw1128, uw1129, uw1130, uw414, uw1131⟩, by decide +kernel⟩
theorem kv_L_94 : xWV RL 94 RX9 yX9_height cX9_height 2 (some .int) 1 := ⟨⟨uw1132, uw1133, uw1134, uw657, uw1135⟩, by decide +kernel⟩
theorem kv_L_95 : xWV RL 95 RX8 yX8_paper cX8_paper 3 (some .int) 2 := ⟨⟨uw1136, uw1137, uw1138, uw414, uw1139⟩, by decide +kernel⟩
theorem kv_L_98 : xWV RL 98 RX9 yX9_paper cX9_paper 3 (some .int) 2 := ⟨⟨uw1140, uw1141, uw1142, uw657, uw1143⟩, by decide +kernel⟩
theorem kv_L_99 : xWV RL 99 RX8 yX8_worst cX8_worst 2 (some .int) 0 := ⟨⟨uw1144, uw1145, uw1146, uw414, uw1147⟩, by decide +kernel⟩
theorem kv_L_102 : xWV RL 102 RX9 yX9_worst cX9_worst 5 (some .int) 0 := ⟨⟨uw1148, uw1149, uw1150, uw657, uw1151⟩, by decide +kernel⟩
theorem kv_L_103 : xWV RL 103 RX8 yX8_walk cX8_walk 6 (some .int) 4 := ⟨⟨uw1152, uw1153, uw1154, uw414, uw1155⟩, by decide +kernel⟩
theorem kv_L_106 : xWV RL 106 RX9 yX9_walk cX9_walk 5 (some .int) 4 := ⟨⟨uw1156, uw1157, uw1158, uw657, uw1159⟩, by decide +kernel⟩
theorem kv_L_107 : xWV RL 107 RX8 yX8_on cX8_on 3 (some .int) 2 := ⟨⟨uw1160, uw1161, uw1162, uw414, uw1163⟩, by decide +kernel⟩
theorem kv_L_110 : xWV RL 110 RX9 yX9_on cX9_on 4 (some .int) 2 := ⟨⟨uw1164, uw1165, uw1166, uw657, uw1167⟩, by decide +kernel⟩
theorem kv_L_111 : xWV RL 111 RX8 yX8_learn cX8_learn 1 (some .int) 0 := ⟨⟨uw1168, uw1169, uw1170, uw414, uw1171⟩, by decide +kernel⟩
theorem kv_L_114 : xWV RL 114 RX9 yX9_learn cX9_learn 1 (some .int) 0 := ⟨⟨uw1172, uw1173, uw1174, uw657, uw1175⟩, by decide +kernel⟩
theorem kv_L_115 : xWV RL 115 RX8 yX8_lies cX8_lies 1 (some .int) 0 := ⟨⟨uw1176, uw1177, uw1178, uw414, uw1179⟩, by decide +kernel⟩
theorem kv_L_118 : xWV RL 118 RX9 yX9_lies cX9_lies 2 (some .int) 0 := ⟨⟨uw1180, uw1181, uw1182, uw657, uw1183⟩, by decide +kernel⟩
theorem kv_L_119 : xWV RL 119 RX8 yX8_known cX8_known 2 (some .int) 1 := ⟨⟨uw1184, uw1185, uw1186, uw414, uw1187⟩, by decide +kernel⟩
theorem kv_L_122 : xWV RL 122 RX9 yX9_known cX9_known 7 (some .int) 1 := ⟨⟨uw1188, uw920, uw921, uw657, uw922⟩, by decide +kernel⟩
theorem kv_L_123 : xWV RL 123 RX8 yX8_ask cX8_ask 2 (some .int) 0 := ⟨⟨uw1189, uw1190, uw1191, uw414, uw1192⟩, by decide +kernel⟩
theorem kv_L_126 : xWV RL 126 RX9 yX9_ask cX9_ask 4 (some .int) 0 := ⟨⟨uw1193, uw1194, uw1195, uw657, uw1196⟩, by decide +kernel⟩
theorem kv_L_127 : xWV RL 127 RX8 yX8_saves cX8_saves 4 (some .int) 2 := ⟨⟨uw1197, uw1198, uw1199, uw414, uw1200⟩, by decide +kernel⟩
theorem kv_L_130 : xWV RL 130 RX9 yX9_saves cX9_saves 5 (some .int) 2 := ⟨⟨uw1201, uw1202, uw1203, uw657, uw1204⟩, by decide +kernel⟩
theorem kv_L_131 : xWV RL 131 RX8 yX8_mend cX8_mend 3 (some .int) 0 := ⟨⟨uw1205, uw1206, uw1207, uw414, uw1208⟩, by decide +kernel⟩
theorem kv_L_134 : xWV RL 134 RX9 yX9_mend cX9_mend 7 (some .int) 0 := ⟨⟨uw1209, uw1210, uw1211, uw657, uw1212⟩, by decide +kernel⟩
theorem kv_L_135 : xWV RL 135 RX8 yX8_goes cX8_goes 4 (some .int) 2 := ⟨⟨uw1213, uw1214, uw1215, uw414, uw1216⟩, by decide +kernel⟩
theorem kv_L_138 : xWV RL 138 RX9 yX9_goes cX9_goes 5 (some .int) 2 := ⟨⟨uw1217, uw1218, uw1219, uw657, uw1220⟩, by decide +kernel⟩
theorem kv_L_139 : xWV RL 139 RX8 yX8_hollow cX8_hollow 1 (some .int) 0 := ⟨⟨uw1221, uw1222, uw1223, uw414, uw1224⟩, by decide +kernel⟩
theorem kv_L_142 : xWV RL 142 RX9 yX9_hollow cX9_hollow 5 (some .int) 0 := ⟨⟨uw1225, uw1226, uw1227, uw657, uw1228⟩, by decide +kernel⟩
theorem kv_L_143 : xWV RL 143 RX8 yX8_feed cX8_feed 4 (some .int) 2 := ⟨⟨uw1229, uw1230, uw1231, uw414, uw1232⟩, by decide +kernel⟩
theorem kv_L_146 : xWV RL 146 RX9 yX9_feed cX9_feed 4 (some .int) 2 := ⟨⟨uw1233, uw1234, uw1235, uw657, uw1236⟩, by decide +kernel⟩
theorem kv_L_147 : xWV RL 147 RX8 yX8_wipe cX8_wipe 2 (some .int) 0 := ⟨⟨uw1237, uw1238, uw1239, uw414, uw1240⟩, by decide +kernel⟩
theorem kv_L_150 : xWV RL 150 RX9 yX9_wipe cX9_wipe 2 (some .int) 0 := ⟨⟨uw1241, uw1242, uw1243, uw657, uw1244⟩, by decide +kernel⟩
theorem kv_L_151 : xWV RL 151 RX8 yX8_land cX8_land 2 (some .int) 0 := ⟨⟨uw1245, uw1246, uw1247, uw414, uw1248⟩, by decide +kernel⟩
theorem kv_L_154 : xWV RL 154 RX9 yX9_land cX9_land 2 (some .int) 0 := ⟨⟨uw1249, uw1250, uw1251, uw657, uw1252⟩, by decide +kernel⟩
theorem kv_L_155 : xWV RL 155 RX8 yX8_sheet cX8_sheet 4 (some .int) 3 := ⟨⟨uw1253, uw1254, uw1255, uw414, uw1256⟩, by decide +kernel⟩
theorem kv_L_158 : xWV RL 158 RX9 yX9_sheet cX9_sheet 5 (some .int) 3 := ⟨⟨uw1257, uw1258, uw1259, uw657, uw1260⟩, by decide +kernel⟩
theorem kv_L_161 : xWV RL 161 RX8 yX8_write cX8_write 8 (some .long) 3 := ⟨⟨uw1262, uw1263, uw1264, uw414, uw1265⟩, by decide +kernel⟩
theorem kv_L_165 : xWV RL 165 RX9 yX9_write cX9_write 8 (some .long) 3 := ⟨⟨uw1266, uw1267, uw1268, uw657, uw1269⟩, by decide +kernel⟩
theorem kv_L_166 : xWV RL 166 RX8 yX8_copy cX8_copy 8 (some .int) 5 := ⟨⟨uw1270, uw1271, uw1272, uw414, uw1273⟩, by decide +kernel⟩
theorem kv_L_170 : xWV RL 170 RX9 yX9_copy cX9_copy 7 (some .int) 5 := ⟨⟨uw1274, uw1275, uw1276, uw657, uw1277⟩, by decide +kernel⟩
theorem kv_L_171 : xWV RL 171 RX8 yX8_lays cX8_lays 3 (some .int) 2 := ⟨⟨uw1278, uw1279, uw1280, uw414, uw1281⟩, by decide +kernel⟩
theorem kv_L_174 : xWV RL 174 RX9 yX9_lays cX9_lays 9 (some .int) 2 := ⟨⟨uw1282, uw1283, uw1284, uw657, uw1285⟩, by decide +kernel⟩
theorem kv_L_175 : xWV RL 175 RX8 yX8_read cX8_read 2 (some .int) 1 := ⟨⟨uw1286, uw1287, uw1288, uw414, uw1289⟩, by decide +kernel⟩
theorem kv_L_178 : xWV RL 178 RX9 yX9_read cX9_read 9 (some .int) 1 := ⟨⟨uw1290, uw1291, uw1292, uw657, uw1293⟩, by decide +kernel⟩
theorem kv_L_179 : xWV RL 179 RX8 yX8_image cX8_image 1 (some .int) 0 := ⟨⟨uw1294, uw1295, uw1296, uw414, uw1297⟩, by decide +kernel⟩
theorem kv_L_182 : xWV RL 182 RX9 yX9_image cX9_image 2 (some .int) 0 := ⟨⟨uw1298, uw1299, uw1300, uw657, uw1301⟩, by decide +kernel⟩
theorem kv_L_183 : xWV RL 183 RX8 yX8_undo cX8_undo 1 (some .int) 0 := ⟨⟨uw1302, uw1303, uw1304, uw414, uw1305⟩, by decide +kernel⟩
theorem kv_L_186 : xWV RL 186 RX9 yX9_undo cX9_undo 2 (some .int) 0 := ⟨⟨uw1306, uw1307, uw1308, uw657, uw1309⟩, by decide +kernel⟩
theorem kv_L_187 : xWV RL 187 RX8 yX8_tear cX8_tear 2 (some .int) 0 := ⟨⟨uw1310, uw1311, uw1312, uw414, uw1313⟩, by decide +kernel⟩
theorem kv_L_190 : xWV RL 190 RX9 yX9_tear cX9_tear 2 (some .int) 0 := ⟨⟨uw1314, uw1315, uw1316, uw657, uw1317⟩, by decide +kernel⟩
theorem kv_L_191 : xWV RL 191 RX8 yX8_count cX8_count 2 (some .int) 1 := ⟨⟨uw1318, uw1319, uw1320, uw414, uw1321⟩, by decide +kernel⟩
theorem kv_L_194 : xWV RL 194 RX9 yX9_count cX9_count 4 (some .int) 1 := ⟨⟨uw1322, uw1323, uw1324, uw657, uw1325⟩, by decide +kernel⟩
theorem kv_L_195 : xWV RL 195 RX8 yX8_status cX8_status 4 (some .int) 1 := ⟨⟨uw1326, uw1327, uw1328, uw414, uw1329⟩, by decide +kernel⟩
theorem kv_L_198 : xWV RL 198 RX9 yX9_status cX9_status 4 (some .int) 1 := ⟨⟨uw1330, uw1331, uw1332, uw657, uw1333⟩, by decide +kernel⟩
