theorem uw1160 : Cond.methodLink RL 107 yX8_on ∈ wsU := ut3 (List.mem_of_getElem? (i := 119) (by decide +kernel)) rfl
theorem uw1161 : Cond.instanceMethod yX8_on ∈ wsU := ut3 (List.mem_of_getElem? (i := 120) (by decide +kernel)) rfl
theorem uw1162 : Cond.selects RX8 yX8_on yX8_on ∈ wsU := ut3 (List.mem_of_getElem? (i := 121) (by decide +kernel)) rfl
theorem uw1163 : Cond.code yX8_on cX8_on 3 (some .int) ∈ wsU := ut3 (List.mem_of_getElem? (i := 122) (by decide +kernel)) rfl
theorem uw1164 : Cond.methodLink RL 110 yX9_on ∈ wsU := ut6 (List.mem_of_getElem? (i := 32) (by decide +kernel)) rfl
theorem uw1165 : Cond.instanceMethod yX9_on ∈ wsU := ut6 (List.mem_of_getElem? (i := 33) (by decide +kernel)) rfl
theorem uw1166 : Cond.selects RX9 yX9_on yX9_on ∈ wsU := ut6 (List.mem_of_getElem? (i := 34) (by decide +kernel)) rfl
theorem uw1167 : Cond.code yX9_on cX9_on 4 (some .int) ∈ wsU := ut6 (List.mem_of_getElem? (i := 35) (by decide +kernel)) rfl
theorem uw1168 : Cond.methodLink RL 111 yX8_learn ∈ wsU := ut3 (List.mem_of_getElem? (i := 124) (by decide +kernel)) rfl
theorem uw1169 : Cond.instanceMethod yX8_learn ∈ wsU := ut3 (List.mem_of_getElem? (i := 125) (by decide +kernel)) rfl
theorem uw1170 : Cond.selects RX8 yX8_learn yX8_learn ∈ wsU := ut3 (List.mem_of_getElem? (i := 126) (by decide +kernel)) rfl
theorem uw1171 : Cond.code yX8_learn cX8_learn 1 (some .int) ∈ wsU := ut3 (List.mem_of_getElem? (i := 127) (by decide +kernel)) rfl
theorem uw1172 : Cond.methodLink RL 114 yX9_learn ∈ wsU := ut6 (List.mem_of_getElem? (i := 36) (by decide +kernel)) rfl
theorem uw1173 : Cond.instanceMethod yX9_learn ∈ wsU := ut6 (List.mem_of_getElem? (i := 37) (by decide +kernel)) rfl
theorem uw1174 : Cond.selects RX9 yX9_learn yX9_learn ∈ wsU := ut6 (List.mem_of_getElem? (i := 38) (by decide +kernel)) rfl
theorem uw1175 : Cond.code yX9_learn cX9_learn 1 (some .int) ∈ wsU := ut6 (List.mem_of_getElem? (i := 39) (by decide +kernel)) rfl
theorem uw1176 : Cond.methodLink RL 115 yX8_lies ∈ wsU := ut3 (List.mem_of_getElem? (i := 149) (by decide +kernel)) rfl
theorem uw1177 : Cond.instanceMethod yX8_lies ∈ wsU := ut3 (List.mem_of_getElem? (i := 150) (by decide +kernel)) rfl
theorem uw1178 : Cond.selects RX8 yX8_lies yX8_lies ∈ wsU := ut3 (List.mem_of_getElem? (i := 151) (by decide +kernel)) rfl
theorem uw1179 : Cond.code yX8_lies cX8_lies 1 (some .int) ∈ wsU := ut3 (List.mem_of_getElem? (i := 152) (by decide +kernel)) rfl
theorem uw1180 : Cond.methodLink RL 118 yX9_lies ∈ wsU := ut6 (List.mem_of_getElem? (i := 56) (by decide +kernel)) rfl
theorem uw1181 : Cond.instanceMethod yX9_lies ∈ wsU := ut6 (List.mem_of_getElem? (i := 57) (by decide +kernel)) rfl
theorem uw1182 : Cond.selects RX9 yX9_lies yX9_lies ∈ wsU := ut6 (List.mem_of_getElem? (i := 58) (by decide +kernel)) rfl
theorem uw1183 : Cond.code yX9_lies cX9_lies 2 (some .int) ∈ wsU := ut6 (List.mem_of_getElem? (i := 59) (by decide +kernel)) rfl
theorem uw1184 : Cond.methodLink RL 119 yX8_known ∈ wsU := ut3 (List.mem_of_getElem? (i := 165) (by decide +kernel)) rfl
theorem uw1185 : Cond.instanceMethod yX8_known ∈ wsU := ut3 (List.mem_of_getElem? (i := 166) (by decide +kernel)) rfl
theorem uw1186 : Cond.selects RX8 yX8_known yX8_known ∈ wsU := ut3 (List.mem_of_getElem? (i := 167) (by decide +kernel)) rfl
theorem uw1187 : Cond.code yX8_known cX8_known 2 (some .int) ∈ wsU := ut3 (List.mem_of_getElem? (i := 168) (by decide +kernel)) rfl
theorem uw1188 : Cond.methodLink RL 122 yX9_known ∈ wsU := ut6 (List.mem_of_getElem? (i := 68) (by decide +kernel)) rfl
theorem uw1189 : Cond.methodLink RL 123 yX8_ask ∈ wsU := ut3 (List.mem_of_getElem? (i := 181) (by decide +kernel)) rfl
theorem uw1190 : Cond.instanceMethod yX8_ask ∈ wsU := ut3 (List.mem_of_getElem? (i := 182) (by decide +kernel)) rfl
theorem uw1191 : Cond.selects RX8 yX8_ask yX8_ask ∈ wsU := ut3 (List.mem_of_getElem? (i := 183) (by decide +kernel)) rfl
theorem uw1192 : Cond.code yX8_ask cX8_ask 2 (some .int) ∈ wsU := ut3 (List.mem_of_getElem? (i := 184) (by decide +kernel)) rfl
theorem uw1193 : Cond.methodLink RL 126 yX9_ask ∈ wsU := ut6 (List.mem_of_getElem? (i := 76) (by decide +kernel)) rfl
theorem uw1194 : Cond.instanceMethod yX9_ask ∈ wsU := ut6 (List.mem_of_getElem? (i := 77) (by decide +kernel)) rfl
theorem uw1195 : Cond.selects RX9 yX9_ask yX9_ask ∈ wsU := ut6 (List.mem_of_getElem? (i := 78) (by decide +kernel)) rfl
theorem uw1196 : Cond.code yX9_ask cX9_ask 4 (some .int) ∈ wsU := ut6 (List.mem_of_getElem? (i := 79) (by decide +kernel)) rfl
theorem uw1197 : Cond.methodLink RL 127 yX8_saves ∈ wsU := ut3 (List.mem_of_getElem? (i := 189) (by decide +kernel)) rfl
theorem uw1198 : Cond.instanceMethod yX8_saves ∈ wsU := ut3 (List.mem_of_getElem? (i := 190) (by decide +kernel)) rfl
theorem uw1199 : Cond.selects RX8 yX8_saves yX8_saves ∈ wsU := ut3 (List.mem_of_getElem? (i := 191) (by decide +kernel)) rfl
theorem uw1200 : Cond.code yX8_saves cX8_saves 4 (some .int) ∈ wsU := ut3 (List.mem_of_getElem? (i := 192) (by decide +kernel)) rfl
theorem uw1201 : Cond.methodLink RL 130 yX9_saves ∈ wsU := ut6 (List.mem_of_getElem? (i := 80) (by decide +kernel)) rfl
theorem uw1202 : Cond.instanceMethod yX9_saves ∈ wsU := ut6 (List.mem_of_getElem? (i := 81) (by decide +kernel)) rfl
theorem uw1203 : Cond.selects RX9 yX9_saves yX9_saves ∈ wsU := ut6 (List.mem_of_getElem? (i := 82) (by decide +kernel)) rfl
theorem uw1204 : Cond.code yX9_saves cX9_saves 5 (some .int) ∈ wsU := ut6 (List.mem_of_getElem? (i := 83) (by decide +kernel)) rfl
theorem uw1205 : Cond.methodLink RL 131 yX8_mend ∈ wsU := ut3 (List.mem_of_getElem? (i := 203) (by decide +kernel)) rfl
theorem uw1206 : Cond.instanceMethod yX8_mend ∈ wsU := ut3 (List.mem_of_getElem? (i := 204) (by decide +kernel)) rfl
theorem uw1207 : Cond.selects RX8 yX8_mend yX8_mend ∈ wsU := ut3 (List.mem_of_getElem? (i := 205) (by decide +kernel)) rfl
theorem uw1208 : Cond.code yX8_mend cX8_mend 3 (some .int) ∈ wsU := ut3 (List.mem_of_getElem? (i := 206) (by decide +kernel)) rfl
theorem uw1209 : Cond.methodLink RL 134 yX9_mend ∈ wsU := ut6 (List.mem_of_getElem? (i := 92) (by decide +kernel)) rfl
theorem uw1210 : Cond.instanceMethod yX9_mend ∈ wsU := ut6 (List.mem_of_getElem? (i := 93) (by decide +kernel)) rfl
theorem uw1211 : Cond.selects RX9 yX9_mend yX9_mend ∈ wsU := ut6 (List.mem_of_getElem? (i := 94) (by decide +kernel)) rfl
theorem uw1212 : Cond.code yX9_mend cX9_mend 7 (some .int) ∈ wsU := ut6 (List.mem_of_getElem? (i := 95) (by decide +kernel)) rfl
theorem uw1213 : Cond.methodLink RL 135 yX8_goes ∈ wsU := ut3 (List.mem_of_getElem? (i := 211) (by decide +kernel)) rfl
theorem uw1214 : Cond.instanceMethod yX8_goes ∈ wsU := ut3 (List.mem_of_getElem? (i := 212) (by decide +kernel)) rfl
theorem uw1215 : Cond.selects RX8 yX8_goes yX8_goes ∈ wsU := ut3 (List.mem_of_getElem? (i := 213) (by decide +kernel)) rfl
theorem uw1216 : Cond.code yX8_goes cX8_goes 4 (some .int) ∈ wsU := ut3 (List.mem_of_getElem? (i := 214) (by decide +kernel)) rfl
theorem uw1217 : Cond.methodLink RL 138 yX9_goes ∈ wsU := ut6 (List.mem_of_getElem? (i := 96) (by decide +kernel)) rfl
theorem uw1218 : Cond.instanceMethod yX9_goes ∈ wsU := ut6 (List.mem_of_getElem? (i := 97) (by decide +kernel)) rfl
theorem uw1219 : Cond.selects RX9 yX9_goes yX9_goes ∈ wsU := ut6 (List.mem_of_getElem? (i := 98) (by decide +kernel)) rfl
theorem uw1220 : Cond.code yX9_goes cX9_goes 5 (some .int) ∈ wsU := ut6 (List.mem_of_getElem? (i := 99) (by decide +kernel)) rfl
theorem uw1221 : Cond.methodLink RL 139 yX8_hollow ∈ wsU := ut3 (List.mem_of_getElem? (i := 225) (by decide +kernel)) rfl
theorem uw1222 : Cond.instanceMethod yX8_hollow ∈ wsU := ut3 (List.mem_of_getElem? (i := 226) (by decide +kernel)) rfl
theorem uw1223 : Cond.selects RX8 yX8_hollow yX8_hollow ∈ wsU := ut3 (List.mem_of_getElem? (i := 227) (by decide +kernel)) rfl
theorem uw1224 : Cond.code yX8_hollow cX8_hollow 1 (some .int) ∈ wsU := ut3 (List.mem_of_getElem? (i := 228) (by decide +kernel)) rfl
theorem uw1225 : Cond.methodLink RL 142 yX9_hollow ∈ wsU := ut6 (List.mem_of_getElem? (i := 105) (by decide +kernel)) rfl
theorem uw1226 : Cond.instanceMethod yX9_hollow ∈ wsU := ut6 (List.mem_of_getElem? (i := 106) (by decide +kernel)) rfl
theorem uw1227 : Cond.selects RX9 yX9_hollow yX9_hollow ∈ wsU := ut6 (List.mem_of_getElem? (i := 107) (by decide +kernel)) rfl
theorem uw1228 : Cond.code yX9_hollow cX9_hollow 5 (some .int) ∈ wsU := ut6 (List.mem_of_getElem? (i := 108) (by decide +kernel)) rfl
theorem uw1229 : Cond.methodLink RL 143 yX8_feed ∈ wsU := ut3 (List.mem_of_getElem? (i := 234) (by decide +kernel)) rfl
theorem uw1230 : Cond.instanceMethod yX8_feed ∈ wsU := ut3 (List.mem_of_getElem? (i := 235) (by decide +kernel)) rfl
theorem uw1231 : Cond.selects RX8 yX8_feed yX8_feed ∈ wsU := ut3 (List.mem_of_getElem? (i := 236) (by decide +kernel)) rfl
theorem uw1232 : Cond.code yX8_feed cX8_feed 4 (some .int) ∈ wsU := ut3 (List.mem_of_getElem? (i := 237) (by decide +kernel)) rfl
theorem uw1233 : Cond.methodLink RL 146 yX9_feed ∈ wsU := ut6 (List.mem_of_getElem? (i := 109) (by decide +kernel)) rfl
theorem uw1234 : Cond.instanceMethod yX9_feed ∈ wsU := ut6 (List.mem_of_getElem? (i := 110) (by decide +kernel)) rfl
theorem uw1235 : Cond.selects RX9 yX9_feed yX9_feed ∈ wsU := ut6 (List.mem_of_getElem? (i := 111) (by decide +kernel)) rfl
theorem uw1236 : Cond.code yX9_feed cX9_feed 4 (some .int) ∈ wsU := ut6 (List.mem_of_getElem? (i := 112) (by decide +kernel)) rfl
theorem uw1237 : Cond.methodLink RL 147 yX8_wipe ∈ wsU := ut4 (List.mem_of_getElem? (i := 2) (by decide +kernel)) rfl
theorem uw1238 : Cond.instanceMethod yX8_wipe ∈ wsU := ut4 (List.mem_of_getElem? (i := 3) (by decide +kernel)) rfl
theorem uw1239 : Cond.selects RX8 yX8_wipe yX8_wipe ∈ wsU := ut4 (List.mem_of_getElem? (i := 4) (by decide +kernel)) rfl
theorem uw1240 : Cond.code yX8_wipe cX8_wipe 2 (some .int) ∈ wsU := ut4 (List.mem_of_getElem? (i := 5) (by decide +kernel)) rfl
theorem uw1241 : Cond.methodLink RL 150 yX9_wipe ∈ wsU := ut6 (List.mem_of_getElem? (i := 114) (by decide +kernel)) rfl
theorem uw1242 : Cond.instanceMethod yX9_wipe ∈ wsU := ut6 (List.mem_of_getElem? (i := 115) (by decide +kernel)) rfl
theorem uw1243 : Cond.selects RX9 yX9_wipe yX9_wipe ∈ wsU := ut6 (List.mem_of_getElem? (i := 116) (by decide +kernel)) rfl
theorem uw1244 : Cond.code yX9_wipe cX9_wipe 2 (some .int) ∈ wsU := ut6 (List.mem_of_getElem? (i := 117) (by decide +kernel)) rfl
theorem uw1245 : Cond.methodLink RL 151 yX8_land ∈ wsU := ut4 (List.mem_of_getElem? (i := 6) (by decide +kernel)) rfl
theorem uw1246 : Cond.instanceMethod yX8_land ∈ wsU := ut4 (List.mem_of_getElem? (i := 7) (by decide +kernel)) rfl
theorem uw1247 : Cond.selects RX8 yX8_land yX8_land ∈ wsU := ut4 (List.mem_of_getElem? (i := 8) (by decide +kernel)) rfl
theorem uw1248 : Cond.code yX8_land cX8_land 2 (some .int) ∈ wsU := ut4 (List.mem_of_getElem? (i := 9) (by decide +kernel)) rfl
theorem uw1249 : Cond.methodLink RL 154 yX9_land ∈ wsU := ut6 (List.mem_of_getElem? (i := 118) (by decide +kernel)) rfl
theorem uw1250 : Cond.instanceMethod yX9_land ∈ wsU := ut6 (List.mem_of_getElem? (i := 119) (by decide +kernel)) rfl
theorem uw1251 : Cond.selects RX9 yX9_land yX9_land ∈ wsU := ut6 (List.mem_of_getElem? (i := 120) (by decide +kernel)) rfl
theorem uw1252 : Cond.code yX9_land cX9_land 2 (some .int) ∈ wsU := ut6 (List.mem_of_getElem? (i := 121) (by decide +kernel)) rfl
theorem uw1253 : Cond.methodLink RL 155 yX8_sheet ∈ wsU := ut4 (List.mem_of_getElem? (i := 126) (by decide +kernel)) rfl
theorem uw1254 : Cond.instanceMethod yX8_sheet ∈ wsU := ut4 (List.mem_of_getElem? (i := 127) (by decide +kernel)) rfl
theorem uw1255 : Cond.selects RX8 yX8_sheet yX8_sheet ∈ wsU := ut4 (List.mem_of_getElem? (i := 128) (by decide +kernel)) rfl
theorem uw1256 : Cond.code yX8_sheet cX8_sheet 4 (some .int) ∈ wsU := ut4 (List.mem_of_getElem? (i := 129) (by decide +kernel)) rfl
theorem uw1257 : Cond.methodLink RL 158 yX9_sheet ∈ wsU := ut6 (List.mem_of_getElem? (i := 176) (by decide +kernel)) rfl
theorem uw1258 : Cond.instanceMethod yX9_sheet ∈ wsU := ut6 (List.mem_of_getElem? (i := 177) (by decide +kernel)) rfl
theorem uw1259 : Cond.selects RX9 yX9_sheet yX9_sheet ∈ wsU := ut6 (List.mem_of_getElem? (i := 178) (by decide +kernel)) rfl
theorem uw1260 : Cond.code yX9_sheet cX9_sheet 5 (some .int) ∈ wsU := ut6 (List.mem_of_getElem? (i := 179) (by decide +kernel)) rfl
theorem uw1261 : Cond.constantLong RL 159 4294967295 ∈ wsU := ut6 (List.mem_of_getElem? (i := 230) (by decide +kernel)) rfl
theorem uw1262 : Cond.methodLink RL 161 yX8_write ∈ wsU := ut4 (List.mem_of_getElem? (i := 138) (by decide +kernel)) rfl
theorem uw1263 : Cond.instanceMethod yX8_write ∈ wsU := ut4 (List.mem_of_getElem? (i := 139) (by decide +kernel)) rfl
theorem uw1264 : Cond.selects RX8 yX8_write yX8_write ∈ wsU := ut4 (List.mem_of_getElem? (i := 140) (by decide +kernel)) rfl
theorem uw1265 : Cond.code yX8_write cX8_write 8 (some .long) ∈ wsU := ut4 (List.mem_of_getElem? (i := 141) (by decide +kernel)) rfl
theorem uw1266 : Cond.methodLink RL 165 yX9_write ∈ wsU := ut6 (List.mem_of_getElem? (i := 185) (by decide +kernel)) rfl
theorem uw1267 : Cond.instanceMethod yX9_write ∈ wsU := ut6 (List.mem_of_getElem? (i := 186) (by decide +kernel)) rfl
theorem uw1268 : Cond.selects RX9 yX9_write yX9_write ∈ wsU := ut6 (List.mem_of_getElem? (i := 187) (by decide +kernel)) rfl
theorem uw1269 : Cond.code yX9_write cX9_write 8 (some .long) ∈ wsU := ut6 (List.mem_of_getElem? (i := 188) (by decide +kernel)) rfl
theorem uw1270 : Cond.methodLink RL 166 yX8_copy ∈ wsU := ut4 (List.mem_of_getElem? (i := 151) (by decide +kernel)) rfl
theorem uw1271 : Cond.instanceMethod yX8_copy ∈ wsU := ut4 (List.mem_of_getElem? (i := 152) (by decide +kernel)) rfl
theorem uw1272 : Cond.selects RX8 yX8_copy yX8_copy ∈ wsU := ut4 (List.mem_of_getElem? (i := 153) (by decide +kernel)) rfl
theorem uw1273 : Cond.code yX8_copy cX8_copy 8 (some .int) ∈ wsU := ut4 (List.mem_of_getElem? (i := 154) (by decide +kernel)) rfl
theorem uw1274 : Cond.methodLink RL 170 yX9_copy ∈ wsU := ut6 (List.mem_of_getElem? (i := 197) (by decide +kernel)) rfl
theorem uw1275 : Cond.instanceMethod yX9_copy ∈ wsU := ut6 (List.mem_of_getElem? (i := 198) (by decide +kernel)) rfl
theorem uw1276 : Cond.selects RX9 yX9_copy yX9_copy ∈ wsU := ut6 (List.mem_of_getElem? (i := 199) (by decide +kernel)) rfl
theorem uw1277 : Cond.code yX9_copy cX9_copy 7 (some .int) ∈ wsU := ut6 (List.mem_of_getElem? (i := 200) (by decide +kernel)) rfl
theorem uw1278 : Cond.methodLink RL 171 yX8_lays ∈ wsU := ut4 (List.mem_of_getElem? (i := 160) (by decide +kernel)) rfl
theorem uw1279 : Cond.instanceMethod yX8_lays ∈ wsU := ut4 (List.mem_of_getElem? (i := 161) (by decide +kernel)) rfl
theorem uw1280 : Cond.selects RX8 yX8_lays yX8_lays ∈ wsU := ut4 (List.mem_of_getElem? (i := 162) (by decide +kernel)) rfl
theorem uw1281 : Cond.code yX8_lays cX8_lays 3 (some .int) ∈ wsU := ut4 (List.mem_of_getElem? (i := 163) (by decide +kernel)) rfl
theorem uw1282 : Cond.methodLink RL 174 yX9_lays ∈ wsU := ut6 (List.mem_of_getElem? (i := 201) (by decide +kernel)) rfl
theorem uw1283 : Cond.instanceMethod yX9_lays ∈ wsU := ut6 (List.mem_of_getElem? (i := 202) (by decide +kernel)) rfl
theorem uw1284 : Cond.selects RX9 yX9_lays yX9_lays ∈ wsU := ut6 (List.mem_of_getElem? (i := 203) (by decide +kernel)) rfl
theorem uw1285 : Cond.code yX9_lays cX9_lays 9 (some .int) ∈ wsU := ut6 (List.mem_of_getElem? (i := 204) (by decide +kernel)) rfl
theorem uw1286 : Cond.methodLink RL 175 yX8_read ∈ wsU := ut4 (List.mem_of_getElem? (i := 170) (by decide +kernel)) rfl
theorem uw1287 : Cond.instanceMethod yX8_read ∈ wsU := ut4 (List.mem_of_getElem? (i := 171) (by decide +kernel)) rfl
theorem uw1288 : Cond.selects RX8 yX8_read yX8_read ∈ wsU := ut4 (List.mem_of_getElem? (i := 172) (by decide +kernel)) rfl
theorem uw1289 : Cond.code yX8_read cX8_read 2 (some .int) ∈ wsU := ut4 (List.mem_of_getElem? (i := 173) (by decide +kernel)) rfl
theorem uw1290 : Cond.methodLink RL 178 yX9_read ∈ wsU := ut6 (List.mem_of_getElem? (i := 205) (by decide +kernel)) rfl
theorem uw1291 : Cond.instanceMethod yX9_read ∈ wsU := ut6 (List.mem_of_getElem? (i := 206) (by decide +kernel)) rfl
theorem uw1292 : Cond.selects RX9 yX9_read yX9_read ∈ wsU := ut6 (List.mem_of_getElem? (i := 207) (by decide +kernel)) rfl
theorem uw1293 : Cond.code yX9_read cX9_read 9 (some .int) ∈ wsU := ut6 (List.mem_of_getElem? (i := 208) (by decide +kernel)) rfl
theorem uw1294 : Cond.methodLink RL 179 yX8_image ∈ wsU := ut4 (List.mem_of_getElem? (i := 178) (by decide +kernel)) rfl
theorem uw1295 : Cond.instanceMethod yX8_image ∈ wsU := ut4 (List.mem_of_getElem? (i := 179) (by decide +kernel)) rfl
theorem uw1296 : Cond.selects RX8 yX8_image yX8_image ∈ wsU := ut4 (List.mem_of_getElem? (i := 180) (by decide +kernel)) rfl
theorem uw1297 : Cond.code yX8_image cX8_image 1 (some .int) ∈ wsU := ut4 (List.mem_of_getElem? (i := 181) (by decide +kernel)) rfl
theorem uw1298 : Cond.methodLink RL 182 yX9_image ∈ wsU := ut6 (List.mem_of_getElem? (i := 209) (by decide +kernel)) rfl
theorem uw1299 : Cond.instanceMethod yX9_image ∈ wsU := ut6 (List.mem_of_getElem? (i := 210) (by decide +kernel)) rfl
theorem uw1300 : Cond.selects RX9 yX9_image yX9_image ∈ wsU := ut6 (List.mem_of_getElem? (i := 211) (by decide +kernel)) rfl
theorem uw1301 : Cond.code yX9_image cX9_image 2 (some .int) ∈ wsU := ut6 (List.mem_of_getElem? (i := 212) (by decide +kernel)) rfl
theorem uw1302 : Cond.methodLink RL 183 yX8_undo ∈ wsU := ut4 (List.mem_of_getElem? (i := 182) (by decide +kernel)) rfl
theorem uw1303 : Cond.instanceMethod yX8_undo ∈ wsU := ut4 (List.mem_of_getElem? (i := 183) (by decide +kernel)) rfl
theorem uw1304 : Cond.selects RX8 yX8_undo yX8_undo ∈ wsU := ut4 (List.mem_of_getElem? (i := 184) (by decide +kernel)) rfl
theorem uw1305 : Cond.code yX8_undo cX8_undo 1 (some .int) ∈ wsU := ut4 (List.mem_of_getElem? (i := 185) (by decide +kernel)) rfl
theorem uw1306 : Cond.methodLink RL 186 yX9_undo ∈ wsU := ut6 (List.mem_of_getElem? (i := 213) (by decide +kernel)) rfl
theorem uw1307 : Cond.instanceMethod yX9_undo ∈ wsU := ut6 (List.mem_of_getElem? (i := 214) (by decide +kernel)) rfl
theorem uw1308 : Cond.selects RX9 yX9_undo yX9_undo ∈ wsU := ut6 (List.mem_of_getElem? (i := 215) (by decide +kernel)) rfl
theorem uw1309 : Cond.code yX9_undo cX9_undo 2 (some .int) ∈ wsU := ut6 (List.mem_of_getElem? (i := 216) (by decide +kernel)) rfl
theorem uw1310 : Cond.methodLink RL 187 yX8_tear ∈ wsU := ut4 (List.mem_of_getElem? (i := 186) (by decide +kernel)) rfl
theorem uw1311 : Cond.instanceMethod yX8_tear ∈ wsU := ut4 (List.mem_of_getElem? (i := 187) (by decide +kernel)) rfl
theorem uw1312 : Cond.selects RX8 yX8_tear yX8_tear ∈ wsU := ut4 (List.mem_of_getElem? (i := 188) (by decide +kernel)) rfl
theorem uw1313 : Cond.code yX8_tear cX8_tear 2 (some .int) ∈ wsU := ut4 (List.mem_of_getElem? (i := 189) (by decide +kernel)) rfl
theorem uw1314 : Cond.methodLink RL 190 yX9_tear ∈ wsU := ut6 (List.mem_of_getElem? (i := 217) (by decide +kernel)) rfl
theorem uw1315 : Cond.instanceMethod yX9_tear ∈ wsU := ut6 (List.mem_of_getElem? (i := 218) (by decide +kernel)) rfl
theorem uw1316 : Cond.selects RX9 yX9_tear yX9_tear ∈ wsU := ut6 (List.mem_of_getElem? (i := 219) (by decide +kernel)) rfl
theorem uw1317 : Cond.code yX9_tear cX9_tear 2 (some .int) ∈ wsU := ut6 (List.mem_of_getElem? (i := 220) (by decide +kernel)) rfl
theorem uw1318 : Cond.methodLink RL 191 yX8_count ∈ wsU := ut4 (List.mem_of_getElem? (i := 190) (by decide +kernel)) rfl
theorem uw1319 : Cond.instanceMethod yX8_count ∈ wsU := ut4 (List.mem_of_getElem? (i := 191) (by decide +kernel)) rfl
theorem uw1320 : Cond.selects RX8 yX8_count yX8_count ∈ wsU := ut4 (List.mem_of_getElem? (i := 192) (by decide +kernel)) rfl
theorem uw1321 : Cond.code yX8_count cX8_count 2 (some .int) ∈ wsU := ut4 (List.mem_of_getElem? (i := 193) (by decide +kernel)) rfl
theorem uw1322 : Cond.methodLink RL 194 yX9_count ∈ wsU := ut6 (List.mem_of_getElem? (i := 221) (by decide +kernel)) rfl
theorem uw1323 : Cond.instanceMethod yX9_count ∈ wsU := ut6 (List.mem_of_getElem? (i := 222) (by decide +kernel)) rfl
theorem uw1324 : Cond.selects RX9 yX9_count yX9_count ∈ wsU := ut6 (List.mem_of_getElem? (i := 223) (by decide +kernel)) rfl
theorem uw1325 : Cond.code yX9_count cX9_count 4 (some .int) ∈ wsU := ut6 (List.mem_of_getElem? (i := 224) (by decide +kernel)) rfl
theorem uw1326 : Cond.methodLink RL 195 yX8_status ∈ wsU := ut4 (List.mem_of_getElem? (i := 198) (by decide +kernel)) rfl
theorem uw1327 : Cond.instanceMethod yX8_status ∈ wsU := ut4 (List.mem_of_getElem? (i := 199) (by decide +kernel)) rfl
theorem uw1328 : Cond.selects RX8 yX8_status yX8_status ∈ wsU := ut4 (List.mem_of_getElem? (i := 200) (by decide +kernel)) rfl
theorem uw1329 : Cond.code yX8_status cX8_status 4 (some .int) ∈ wsU := ut4 (List.mem_of_getElem? (i := 201) (by decide +kernel)) rfl
theorem uw1330 : Cond.methodLink RL 198 yX9_status ∈ wsU := ut6 (List.mem_of_getElem? (i := 226) (by decide +kernel)) rfl
theorem uw1331 : Cond.instanceMethod yX9_status ∈ wsU := ut6 (List.mem_of_getElem? (i := 227) (by decide +kernel)) rfl
theorem uw1332 : Cond.selects RX9 yX9_status yX9_status ∈ wsU := ut6 (List.mem_of_getElem? (i := 228) (by decide +kernel)) rfl
theorem uw1333 : Cond.code yX9_status cX9_status 4 (some .int) ∈ wsU := ut6 (List.mem_of_getElem? (i := 229) (by decide +kernel)) rfl
theorem kv_L_107 : xWV RL 107 RX8 yX8_on cX8_on 3 (some .int) 2 := ⟨⟨uw1160, uw1161, uw1162, uw414, uw1163⟩, by decide +kernel⟩
theorem kv_L_110 : xWV RL 110 RX9 yX9_on cX9_on 4 (some .int) 2 := ⟨⟨uw1164, uw1165, uw1166, uw657, uw1167⟩, by decide +kernel⟩
theorem kv_L_111 : xWV RL 111 RX8 yX8_learn cX8_learn 1 (some .int) 0 := ⟨⟨uw1168, uw1169, uw1170, uw414, uw1171⟩, by decide +kernel⟩
theorem kv_L_114 : xWV RL 114 RX9 yX9_learn cX9_learn 1 (some .int) 0 := ⟨⟨uw1172, uw1173, uw1174, uw657, uw1175⟩, by decide +kernel⟩
theorem kv_L_115 : xWV RL 115 RX8 yX8_lies cX8_lies 1 (some .int) 0 := ⟨⟨uw1176, uw1177, uw1178, uw414, uw1179⟩, by decide +kernel⟩
theorem kv_L_118 : xWV RL 118 RX9 yX9_lies cX9_lies 2 (some .int) 0 := ⟨⟨uw1180, uw1181, uw1182, uw657, uw1183⟩, by decide +kernel⟩
theorem kv_L_119 : xWV RL 119 RX8 yX8_known cX8_known 2 (some .int) 1 := ⟨⟨uw1184, uw1185, uw1186, uw414, uw1187⟩, by decide +kernel⟩
theorem kv_L_122 : xWV RL 122 RX9 yX9_known cX9_known 7 (some .int) 1 := ⟨⟨uw1188, uw920, uw921, uw657, uw922⟩, by decide +kernel⟩
theorem kv_L_123 : xWV RL 123 RX8 yX8_ask cX8_ask 2 (some .int) 0 := ⟨⟨uw1189, uw1190, uw1191, uw414, uw1192⟩, by decide +kernel⟩
theorem kv_L_126 : xWV RL 126 RX9 yX9_ask cX9_ask 4 (some .int) 0 := ⟨⟨uw1193, uw1194, uw1195, uw657, uw1196⟩, by decide +kernel⟩
theorem kv_L_127 : xWV RL 127 RX8 yX8_saves cX8_saves 4 (some .int) 2 := ⟨⟨uw1197, uw1198, uw1199, uw414, uw1200⟩, by decide +kernel⟩
theorem kv_L_130 : xWV RL 130 RX9 yX9_saves cX9_saves 5 (some .int) 2 := ⟨⟨uw1201, uw1202, uw1203, uw657, uw1204⟩, by decide +kernel⟩
theorem kv_L_131 : xWV RL 131 RX8 yX8_mend cX8_mend 3 (some .int) 0 := ⟨⟨uw1205, uw1206, uw1207, uw414, uw1208⟩, by decide +kernel⟩
theorem kv_L_134 : xWV RL 134 RX9 yX9_mend cX9_mend 7 (some .int) 0 := ⟨⟨uw1209, uw1210, uw1211, uw657, uw1212⟩, by decide +kernel⟩
theorem kv_L_135 : xWV RL 135 RX8 yX8_goes cX8_goes 4 (some .int) 2 := ⟨⟨uw1213, uw1214, uw1215, uw414, uw1216⟩, by decide +kernel⟩
theorem kv_L_138 : xWV RL 138 RX9 yX9_goes cX9_goes 5 (some .int) 2 := ⟨⟨uw1217, uw1218, uw1219, uw657, uw1220⟩, by decide +kernel⟩
theorem kv_L_139 : xWV RL 139 RX8 yX8_hollow cX8_hollow 1 (some .int) 0 := ⟨⟨uw1221, uw1222, uw1223, uw414, uw1224⟩, by decide +kernel⟩
theorem kv_L_142 : xWV RL 142 RX9 yX9_hollow cX9_hollow 5 (some .int) 0 := ⟨⟨uw1225, uw1226, uw1227, uw657, uw1228⟩, by decide +kernel⟩
theorem kv_L_143 : xWV RL 143 RX8 yX8_feed cX8_feed 4 (some .int) 2 := ⟨⟨uw1229, uw1230, uw1231, uw414, uw1232⟩, by decide +kernel⟩
theorem kv_L_146 : xWV RL 146 RX9 yX9_feed cX9_feed 4 (some .int) 2 := ⟨⟨uw1233, uw1234, uw1235, uw657, uw1236⟩, by decide +kernel⟩
theorem kv_L_147 : xWV RL 147 RX8 yX8_wipe cX8_wipe 2 (some .int) 0 := ⟨⟨uw1237, uw1238, uw1239, uw414, uw1240⟩, by decide +kernel⟩
theorem kv_L_150 : xWV RL 150 RX9 yX9_wipe cX9_wipe 2 (some .int) 0 := ⟨⟨uw1241, uw1242, uw1243, uw657, uw1244⟩, by decide +kernel⟩
theorem kv_L_151 : xWV RL 151 RX8 yX8_land cX8_land 2 (some .int) 0 := ⟨⟨uw1245, uw1246, uw1247, uw414, uw1248⟩, by decide +kernel⟩
theorem kv_L_154 : xWV RL 154 RX9 yX9_land cX9_land 2 (some .int) 0 := ⟨⟨uw1249, uw1250, uw1251, uw657, uw1252⟩, by decide +kernel⟩
theorem kv_L_155 : xWV RL 155 RX8 yX8_sheet cX8_sheet 4 (some .int) 3 := ⟨⟨uw1253, uw1254, uw1255, uw414, uw1256⟩, by decide +kernel⟩
theorem kv_L_158 : xWV RL 158 RX9 yX9_sheet cX9_sheet 5 (some .int) 3 := ⟨⟨uw1257, uw1258, uw1259, uw657, uw1260⟩, by decide +kernel⟩
theorem kv_L_161 : xWV RL 161 RX8 yX8_write cX8_write 8 (some .long) 3 := ⟨⟨uw1262, uw1263, uw1264, uw414, uw1265⟩, by decide +kernel⟩
theorem kv_L_165 : xWV RL 165 RX9 yX9_write cX9_write 8 (some .long) 3 := ⟨⟨uw1266, uw1267, uw1268, uw657, uw1269⟩, by decide +kernel⟩
theorem kv_L_166 : xWV RL 166 RX8 yX8_copy cX8_copy 8 (some .int) 5 := ⟨⟨uw1270, uw1271, uw1272, uw414, uw1273⟩, by decide +kernel⟩
theorem kv_L_170 : xWV RL 170 RX9 yX9_copy cX9_copy 7 (some .int) 5 := ⟨⟨uw1274, uw1275, uw1276, uw657, uw1277⟩, by decide +kernel⟩
theorem kv_L_171 : xWV RL 171 RX8 yX8_lays cX8_lays 3 (some .int) 2 := ⟨⟨uw1278, uw1279, uw1280, uw414, uw1281⟩, by decide +kernel⟩
theorem kv_L_174 : xWV RL 174 RX9 yX9_lays cX9_lays 9 (some .int) 2 := ⟨⟨uw1282, uw1283, uw1284, uw657, uw1285⟩, by decide +kernel⟩
theorem kv_L_175 : xWV RL 175 RX8 yX8_read cX8_read 2 (some .int) 1 := ⟨⟨uw1286, uw1287, uw1288, uw414, uw1289⟩, by decide +kernel⟩
theorem kv_L_178 : xWV RL 178 RX9 yX9_read cX9_read 9 (some .int) 1 := ⟨⟨uw1290, uw1291, uw1292, uw657, uw1293⟩, by decide +kernel⟩
theorem kv_L_179 : xWV RL 179 RX8 yX8_image cX8_image 1 (some .int) 0 := ⟨⟨uw1294, uw1295, uw1296, uw414, uw1297⟩, by decide +kernel⟩
theorem kv_L_182 : xWV RL 182 RX9 yX9_image cX9_image 2 (some .int) 0 := ⟨⟨uw1298, uw1299, uw1300, uw657, uw1301⟩, by decide +kernel⟩
theorem kv_L_183 : xWV RL 183 RX8 yX8_undo cX8_undo 1 (some .int) 0 := ⟨⟨uw1302, uw1303, uw1304, uw414, uw1305⟩, by decide +kernel⟩
theorem kv_L_186 : xWV RL 186 RX9 yX9_undo cX9_undo 2 (some .int) 0 := ⟨⟨uw1306, uw1307, uw1308, uw657, uw1309⟩, by decide +kernel⟩
theorem kv_L_187 : xWV RL 187 RX8 yX8_tear cX8_tear 2 (some .int) 0 := ⟨⟨uw1310, uw1311, uw1312, uw414, uw1313⟩, by decide +kernel⟩
theorem kv_L_190 : xWV RL 190 RX9 yX9_tear cX9_tear 2 (some .int) 0 := ⟨⟨uw1314, uw1315, uw1316, uw657, uw1317⟩, by decide +kernel⟩
theorem kv_L_191 : xWV RL 191 RX8 yX8_count cX8_count 2 (some .int) 1 := ⟨⟨uw1318, uw1319, uw1320, uw414, uw1321⟩, by decide +kernel⟩
theorem kv_L_194 : xWV RL 194 RX9 yX9_count cX9_count 4 (some .int) 1 := ⟨⟨uw1322, uw1323, uw1324, uw657, uw1325⟩, by decide +kernel⟩
theorem kv_L_195 : xWV RL 195 RX8 yX8_status cX8_status 4 (some .int) 1 := ⟨⟨uw1326, uw1327, uw1328, uw414, uw1329⟩, by decide +kernel⟩
theorem kv_L_198 : xWV RL 198 RX9 yX9_status cX9_status 4 (some .int) 1 := ⟨⟨uw1330, uw1331, uw1332, uw657, uw1333⟩, by decide +kernel⟩
set_option maxHeartbeats 4000000 in
set_option maxRecDepth 100000 in
theorem law_22 {p : Program} {e : Env} {s : State} {m : MethodId} {below : List Frame} {meth : Method} {c : Code} (l : Launch) (D : va_G) (cI cJ cZ cS : ClassId) (ta : Nat) (sa sv : Nat → Nat) {b L : Nat} {xs : Nat → Int32} {A : Nat → Prop} (hL : L ≤ 3072) (hF : CallFix p m c cL_law 4 s #[Value.ref b] (Cond.initialized RX8 :: wsU) RL) (hr : meth.sig.returnType = ret) (hlk : meth.locks = false) (hK : va_K D vwCl (xT cI cJ cZ cS) s) (hN : XN sa s) (hX : va_X b L xs s s.heap) (hbl : b < s.heap.size) (hA : ∀ q : Nat, s.heap.size ≤ q → A q) (hbA : ¬ A b) (hAs : ∀ q, A q → s.heap.size ≤ q) (hZ : ST ta sa sv A s s.heap) (h0 g0 i : Nat) (hi : i + 6 ≤ L) (qh : Nat) (qk : Nat) (qd : Nat) (b0 : Int32) (qa : Nat) (qm : Nat) (qs : Nat) (qp : Nat) (ql : Nat) (qt : Nat) (qz : Nat) (qf : Nat) (Pa : Nat) (ae : Nat) (al : Nat) (au : Nat) (ao : Nat) (ar : Nat) (ak : Nat) (aw : Nat) (att : Nat) (ass : Nat) (Wa : Nat) (aWn : Nat) (aWp : Nat) (fawn : Nat → Int32) (fawp : Nat → Int32) (ff : Nat → Int32) (m_ys : Nat) (m_yk : Nat) (m_yo : Nat) (m_yt : Nat) (m_yfa : Nat) (m_yfe : Nat) (m_mL : Int32) (m_mS : Int32) (m_mM : Int32) (m_yro : Nat) (m_yhe : Nat) (m_ygr : Nat) (m_mF : Int32) (m_mC : Int32) (m_mY : Int32) (m_yta : Nat) (z : Nat) (m_mf : Nat) (m_mt : Nat) (m_mv : Int32) (m_mw : Int32) (m_ywa : Nat) (m_ybi : Nat) (m_ysi : Nat) (m_ynu : Nat) (m_ymo : Nat) (m_ms : Nat → Int32) (m_mq : Nat → Int32) (m_P : Nat) (m_Rn : Nat) (m_Wn : Nat) {tl : va_W} {H : Heap} {locs : List Loc} {ls : Array Slot} (hP : va_P D vwCl ([(h0, .inr (8, [.ref qh, .ref qk, .ref qd, .int b0, .ref qa, .ref qm, .ref qs, .ref qp, .ref ql, .ref qt, .ref qz, .ref qf])), (qh, .inr (1, [.int (nI (Pa)), .ref ae, .ref al, .ref au, .ref ao, .ref ar, .ref ak, .ref aw, .ref att, .ref ass])), (aw, .inr (3, [.int (nI (Wa)), .ref aWn, .ref aWp])), (aWn, .inl (cI, 8, .inl fawn)), (aWp, .inl (cI, 48, .inl fawp)), (qf, .inl (cI, 7, .inl ff)), (g0, .inr (9, [.ref m_ys, .ref m_yk, .ref m_yo, .ref m_yt, .int b0, .ref m_yfa, .ref m_yfe, .int m_mL, .int m_mS, .int m_mM, .ref m_yro, .ref m_yhe, .ref m_ygr, .int m_mF, .int m_mC, .int m_mY, .ref m_yta, .int (nI (z)), .int (nI (m_mf)), .int (nI (m_mt)), .int m_mv, .int m_mw, .ref m_ywa, .ref m_ybi, .ref m_ysi, .ref m_ynu, .ref m_ymo])), (m_ys, .inl (cI, 449, .inl m_ms)), (m_yt, .inl (cI, 7, .inl m_mq))] ++ tl) H) (hD : va_D A ([(h0, .inr (8, [.ref qh, .ref qk, .ref qd, .int b0, .ref qa, .ref qm, .ref qs, .ref qp, .ref ql, .ref qt, .ref qz, .ref qf])), (qh, .inr (1, [.int (nI (Pa)), .ref ae, .ref al, .ref au, .ref ao, .ref ar, .ref ak, .ref aw, .ref att, .ref ass])), (aw, .inr (3, [.int (nI (Wa)), .ref aWn, .ref aWp])), (aWn, .inl (cI, 8, .inl fawn)), (aWp, .inl (cI, 48, .inl fawp)), (qf, .inl (cI, 7, .inl ff)), (g0, .inr (9, [.ref m_ys, .ref m_yk, .ref m_yo, .ref m_yt, .int b0, .ref m_yfa, .ref m_yfe, .int m_mL, .int m_mS, .int m_mM, .ref m_yro, .ref m_yhe, .ref m_ygr, .int m_mF, .int m_mC, .int m_mY, .ref m_yta, .int (nI (z)), .int (nI (m_mf)), .int (nI (m_mt)), .int m_mv, .int m_mw, .ref m_ywa, .ref m_ybi, .ref m_ysi, .ref m_ynu, .ref m_ymo])), (m_ys, .inl (cI, 449, .inl m_ms)), (m_yt, .inl (cI, 7, .inl m_mq))] ++ tl)) (hP0 : Pa ≤ 10) (hWa : Wa ≤ 8) (hLLw : LL Wa fawn) (hz : z ≤ 120) (hawn : BA 8 7 fawn) (hawp : BA 48 10 fawp) (m_hs0 : m_ms 0 = nI m_P) (m_hs1 : m_ms 1 = nI m_Rn) (m_hs2 : m_ms 2 = nI m_Wn) (m_hsS : SI m_ms) (m_hsM : MI m_ms) (m_hsp : m_P ≤ 10) (m_hsr : m_Rn ≤ 8) (m_hsw : m_Wn ≤ 8) (m_hsR : RI m_Rn m_ms) (hS : va_S A s.heap H locs) (hl : lv_has ls 4 [(3, .int (nI i)), (2, .ref g0), (1, .ref h0), (0, .ref b)]) (kkx : ∀ (H : Heap) (locs : List Loc) (ls : Array Slot) (Wa_n : Nat) (fawn_n : Nat → Int32) (fawp_n : Nat → Int32) (ff_n : Nat → Int32) (m_ms_n : Nat → Int32) (m_mq_n : Nat → Int32) (m_P_n : Nat) (m_Rn_n : Nat) (m_Wn_n : Nat), va_P D vwCl ([(h0, .inr (8, [.ref qh, .ref qk, .ref qd, .int b0, .ref qa, .ref qm, .ref qs, .ref qp, .ref ql, .ref qt, .ref qz, .ref qf])), (qh, .inr (1, [.int (nI (Pa)), .ref ae, .ref al, .ref au, .ref ao, .ref ar, .ref ak, .ref aw, .ref att, .ref ass])), (aw, .inr (3, [.int (nI (Wa_n)), .ref aWn, .ref aWp])), (aWn, .inl (cI, 8, .inl fawn_n)), (aWp, .inl (cI, 48, .inl fawp_n)), (qf, .inl (cI, 7, .inl ff_n)), (g0, .inr (9, [.ref m_ys, .ref m_yk, .ref m_yo, .ref m_yt, .int b0, .ref m_yfa, .ref m_yfe, .int m_mL, .int m_mS, .int m_mM, .ref m_yro, .ref m_yhe, .ref m_ygr, .int m_mF, .int m_mC, .int m_mY, .ref m_yta, .int (nI (z)), .int (nI (m_mf)), .int (nI (m_mt)), .int m_mv, .int m_mw, .ref m_ywa, .ref m_ybi, .ref m_ysi, .ref m_ynu, .ref m_ymo])), (m_ys, .inl (cI, 449, .inl m_ms_n)), (m_yt, .inl (cI, 7, .inl m_mq_n))] ++ tl) H → va_D A ([(h0, .inr (8, [.ref qh, .ref qk, .ref qd, .int b0, .ref qa, .ref qm, .ref qs, .ref qp, .ref ql, .ref qt, .ref qz, .ref qf])), (qh, .inr (1, [.int (nI (Pa)), .ref ae, .ref al, .ref au, .ref ao, .ref ar, .ref ak, .ref aw, .ref att, .ref ass])), (aw, .inr (3, [.int (nI (Wa_n)), .ref aWn, .ref aWp])), (aWn, .inl (cI, 8, .inl fawn_n)), (aWp, .inl (cI, 48, .inl fawp_n)), (qf, .inl (cI, 7, .inl ff_n)), (g0, .inr (9, [.ref m_ys, .ref m_yk, .ref m_yo, .ref m_yt, .int b0, .ref m_yfa, .ref m_yfe, .int m_mL, .int m_mS, .int m_mM, .ref m_yro, .ref m_yhe, .ref m_ygr, .int m_mF, .int m_mC, .int m_mY, .ref m_yta, .int (nI (z)), .int (nI (m_mf)), .int (nI (m_mt)), .int m_mv, .int m_mw, .ref m_ywa, .ref m_ybi, .ref m_ysi, .ref m_ynu, .ref m_ymo])), (m_ys, .inl (cI, 449, .inl m_ms_n)), (m_yt, .inl (cI, 7, .inl m_mq_n))] ++ tl) → (Wa_n ≤ 8) → (LL Wa_n fawn_n) → (BA 8 7 fawn_n) → (BA 48 10 fawp_n) → (m_ms_n 0 = nI m_P_n) → (m_ms_n 1 = nI m_Rn_n) → (m_ms_n 2 = nI m_Wn_n) → (SI m_ms_n) → (MI m_ms_n) → (m_P_n ≤ 10) → (m_Rn_n ≤ 8) → (m_Wn_n ≤ 8) → (RI m_Rn_n m_ms_n) → va_S A s.heap H locs → lv_has ls 4 [(3, .int (nI i)), (2, .ref g0), (1, .ref h0), (0, .ref b)] → W p l e room_1 s m #[Value.ref b] below meth c H locs 82 4273 (lw_Z below #[Value.ref b] s) (F0 m 1483 ls [])) : W p l e room_1 s m #[Value.ref b] below meth c H locs 82 4273 (lw_Z below #[Value.ref b] s) (F0 m 916 ls []) := by
  have hx := hF.1
  have hb := hF.2.1
  have hml := hF.2.2.1
  have hown := hF.2.2.2.1
  have hu : ∀ w ∈ wsU, w.before _ s = true := fun w h => hF.2.2.2.2 w (List.mem_cons_of_mem _ h)
  refine lv_aload_n hx hb dL_law_916 rfl (lv_at hl 2 rfl) ?_
  refine lv_aload_n hx hb dL_law_917 rfl (lv_at hl 3 rfl) ?_
  refine lv_iload_n hx hb dL_law_918 rfl (lv_at hl 0 rfl) ?_
  refine lv_iconst (v := 1) hx hb dL_law_919 (by decide) ?_
  refine lv_iadd hx hb dL_law_920 ?_
  refine xl_i (y := nI (i + 1)) (nI_add i 1) ?_
  refine va_sld hx hb hX hbl hbA hS (x_si (k := 1) (by decide) hi hL) dL_law_921 ?_
  refine xl_i (y := xs (i + 1)) (congrArg xs (x_sc (k := 1) (by decide) hi hL)) ?_
  refine lv_aload_n hx hb dL_law_922 rfl (lv_at hl 3 rfl) ?_
  refine lv_iload_n hx hb dL_law_923 rfl (lv_at hl 0 rfl) ?_
  refine lv_iconst (v := 2) hx hb dL_law_924 (by decide) ?_
  refine lv_iadd hx hb dL_law_925 ?_
  refine xl_i (y := nI (i + 2)) (nI_add i 2) ?_
  refine va_sld hx hb hX hbl hbA hS (x_si (k := 2) (by decide) hi hL) dL_law_926 ?_
  refine xl_i (y := xs (i + 2)) (congrArg xs (x_sc (k := 2) (by decide) hi hL)) ?_
  refine xc_ViT (wr := [(g0, .inr (9, [.ref m_ys, .ref m_yk, .ref m_yo, .ref m_yt, .int b0, .ref m_yfa, .ref m_yfe, .int m_mL, .int m_mS, .int m_mM, .ref m_yro, .ref m_yhe, .ref m_ygr, .int m_mF, .int m_mC, .int m_mY, .ref m_yta, .int (nI (z)), .int (nI (m_mf)), .int (nI (m_mt)), .int m_mv, .int m_mw, .ref m_ywa, .ref m_ybi, .ref m_ysi, .ref m_ynu, .ref m_ymo])), (m_ys, .inl (cI, 449, .inl m_ms)), (m_yt, .inl (cI, 7, .inl m_mq))]) hF (c_X8_on l D cI cJ cZ cS ta sa sv H.size h0 qh qk qd b0 qa qm qs qp ql qt qz qf Pa ae al au ao ar ak aw att ass Wa aWn aWp fawn fawp ff (xs (i + 1)) (xs (i + 2)) hP0 hWa hLLw hawn hawp) kv_L_107 ⟨rfl, rfl, Nat.le_of_ble_eq_true rfl, Nat.le_of_ble_eq_true rfl⟩ ⟨Nat.le_of_ble_eq_true rfl, Nat.le_of_ble_eq_true rfl⟩ hK hN hZ hP hD hS hA [0, 1, 2, 3, 4, 5] [6, 7, 8] rfl rfl rfl rfl (by decide) 0 rfl rfl rfl rfl hl.1 rfl (Nat.le_of_ble_eq_true rfl) dL_law_927 (fun r_1 u_r_1 H locs hw_r_1 hP hD hS => ?_)
  obtain ⟨W2_2, wn2_3, wp2_4, f2_5⟩ := u_r_1
  try dsimp only at hw_r_1
  obtain ⟨hw_r_1, i_6, i_7, i_8, i_9⟩ := hw_r_1
  have hP : va_P D vwCl ([(g0, .inr (9, [.ref m_ys, .ref m_yk, .ref m_yo, .ref m_yt, .int b0, .ref m_yfa, .ref m_yfe, .int m_mL, .int m_mS, .int m_mM, .ref m_yro, .ref m_yhe, .ref m_ygr, .int m_mF, .int m_mC, .int m_mY, .ref m_yta, .int (nI (z)), .int (nI (m_mf)), .int (nI (m_mt)), .int m_mv, .int m_mw, .ref m_ywa, .ref m_ybi, .ref m_ysi, .ref m_ynu, .ref m_ymo])), (m_ys, .inl (cI, 449, .inl m_ms)), (m_yt, .inl (cI, 7, .inl m_mq)), (h0, .inr (8, [.ref qh, .ref qk, .ref qd, .int b0, .ref qa, .ref qm, .ref qs, .ref qp, .ref ql, .ref qt, .ref qz, .ref qf])), (qh, .inr (1, [.int (nI (Pa)), .ref ae, .ref al, .ref au, .ref ao, .ref ar, .ref ak, .ref aw, .ref att, .ref ass])), (aw, .inr (3, [.int (nI (W2_2)), .ref aWn, .ref aWp])), (aWn, .inl (cI, 8, .inl wn2_3)), (aWp, .inl (cI, 48, .inl wp2_4)), (qf, .inl (cI, 7, .inl f2_5))] ++ tl) H := hP
  have hD : va_D A ([(g0, .inr (9, [.ref m_ys, .ref m_yk, .ref m_yo, .ref m_yt, .int b0, .ref m_yfa, .ref m_yfe, .int m_mL, .int m_mS, .int m_mM, .ref m_yro, .ref m_yhe, .ref m_ygr, .int m_mF, .int m_mC, .int m_mY, .ref m_yta, .int (nI (z)), .int (nI (m_mf)), .int (nI (m_mt)), .int m_mv, .int m_mw, .ref m_ywa, .ref m_ybi, .ref m_ysi, .ref m_ynu, .ref m_ymo])), (m_ys, .inl (cI, 449, .inl m_ms)), (m_yt, .inl (cI, 7, .inl m_mq)), (h0, .inr (8, [.ref qh, .ref qk, .ref qd, .int b0, .ref qa, .ref qm, .ref qs, .ref qp, .ref ql, .ref qt, .ref qz, .ref qf])), (qh, .inr (1, [.int (nI (Pa)), .ref ae, .ref al, .ref au, .ref ao, .ref ar, .ref ak, .ref aw, .ref att, .ref ass])), (aw, .inr (3, [.int (nI (W2_2)), .ref aWn, .ref aWp])), (aWn, .inl (cI, 8, .inl wn2_3)), (aWp, .inl (cI, 48, .inl wp2_4)), (qf, .inl (cI, 7, .inl f2_5))] ++ tl) := hD
  refine lv_pop hx hb dL_law_930 rfl ?_
  refine lv_aload_n hx hb dL_law_931 rfl (lv_at hl 1 rfl) ?_
  refine lv_aload_n hx hb dL_law_932 rfl (lv_at hl 3 rfl) ?_
  refine lv_iload_n hx hb dL_law_933 rfl (lv_at hl 0 rfl) ?_
  refine lv_iconst (v := 1) hx hb dL_law_934 (by decide) ?_
  refine lv_iadd hx hb dL_law_935 ?_
  refine xl_i (y := nI (i + 1)) (nI_add i 1) ?_
  refine va_sld hx hb hX hbl hbA hS (x_si (k := 1) (by decide) hi hL) dL_law_936 ?_
  refine xl_i (y := xs (i + 1)) (congrArg xs (x_sc (k := 1) (by decide) hi hL)) ?_
  refine lv_aload_n hx hb dL_law_937 rfl (lv_at hl 3 rfl) ?_
  refine lv_iload_n hx hb dL_law_938 rfl (lv_at hl 0 rfl) ?_
  refine lv_iconst (v := 2) hx hb dL_law_939 (by decide) ?_
  refine lv_iadd hx hb dL_law_940 ?_
  refine xl_i (y := nI (i + 2)) (nI_add i 2) ?_
  refine va_sld hx hb hX hbl hbA hS (x_si (k := 2) (by decide) hi hL) dL_law_941 ?_
  refine xl_i (y := xs (i + 2)) (congrArg xs (x_sc (k := 2) (by decide) hi hL)) ?_
  refine xc_ViT (wr := [(h0, .inr (8, [.ref qh, .ref qk, .ref qd, .int b0, .ref qa, .ref qm, .ref qs, .ref qp, .ref ql, .ref qt, .ref qz, .ref qf])), (qh, .inr (1, [.int (nI (Pa)), .ref ae, .ref al, .ref au, .ref ao, .ref ar, .ref ak, .ref aw, .ref att, .ref ass])), (aw, .inr (3, [.int (nI (W2_2)), .ref aWn, .ref aWp])), (aWn, .inl (cI, 8, .inl wn2_3)), (aWp, .inl (cI, 48, .inl wp2_4)), (qf, .inl (cI, 7, .inl f2_5))]) hF (c_X9_on l D cI cJ cZ cS ta sa sv H.size g0 m_ys m_yk m_yo m_yt b0 m_yfa m_yfe m_mL m_mS m_mM m_yro m_yhe m_ygr m_mF m_mC m_mY m_yta z m_mf m_mt m_mv m_mw m_ywa m_ybi m_ysi m_ynu m_ymo m_ms m_mq m_P m_Rn m_Wn (xs (i + 1)) (xs (i + 2)) m_hs0 m_hs1 m_hs2 m_hsS m_hsM m_hsp m_hsr m_hsw m_hsR) kv_L_110 ⟨rfl, rfl, Nat.le_of_ble_eq_true rfl, Nat.le_of_ble_eq_true rfl⟩ ⟨Nat.le_of_ble_eq_true rfl, Nat.le_of_ble_eq_true rfl⟩ hK hN hZ hP hD hS hA [0, 1, 2] [3, 4, 5, 6, 7, 8] rfl rfl rfl rfl (by decide) 0 rfl rfl rfl rfl hl.1 rfl (Nat.le_of_ble_eq_true rfl) dL_law_942 (fun r_10 u_r_10 H locs hw_r_10 hP hD hS => ?_)
  obtain ⟨ms2_11, mq2_12, P2_13, R2_14, W2_15⟩ := u_r_10
  try dsimp only at hw_r_10
  obtain ⟨hw_r_10, i_16, i_17, i_18, i_19, i_20, i_21, i_22, i_23, i_24⟩ := hw_r_10
  have hP : va_P D vwCl ([(h0, .inr (8, [.ref qh, .ref qk, .ref qd, .int b0, .ref qa, .ref qm, .ref qs, .ref qp, .ref ql, .ref qt, .ref qz, .ref qf])), (qh, .inr (1, [.int (nI (Pa)), .ref ae, .ref al, .ref au, .ref ao, .ref ar, .ref ak, .ref aw, .ref att, .ref ass])), (aw, .inr (3, [.int (nI (W2_2)), .ref aWn, .ref aWp])), (aWn, .inl (cI, 8, .inl wn2_3)), (aWp, .inl (cI, 48, .inl wp2_4)), (qf, .inl (cI, 7, .inl f2_5)), (g0, .inr (9, [.ref m_ys, .ref m_yk, .ref m_yo, .ref m_yt, .int b0, .ref m_yfa, .ref m_yfe, .int m_mL, .int m_mS, .int m_mM, .ref m_yro, .ref m_yhe, .ref m_ygr, .int m_mF, .int m_mC, .int m_mY, .ref m_yta, .int (nI (z)), .int (nI (m_mf)), .int (nI (m_mt)), .int m_mv, .int m_mw, .ref m_ywa, .ref m_ybi, .ref m_ysi, .ref m_ynu, .ref m_ymo])), (m_ys, .inl (cI, 449, .inl ms2_11)), (m_yt, .inl (cI, 7, .inl mq2_12))] ++ tl) H := hP
  have hD : va_D A ([(h0, .inr (8, [.ref qh, .ref qk, .ref qd, .int b0, .ref qa, .ref qm, .ref qs, .ref qp, .ref ql, .ref qt, .ref qz, .ref qf])), (qh, .inr (1, [.int (nI (Pa)), .ref ae, .ref al, .ref au, .ref ao, .ref ar, .ref ak, .ref aw, .ref att, .ref ass])), (aw, .inr (3, [.int (nI (W2_2)), .ref aWn, .ref aWp])), (aWn, .inl (cI, 8, .inl wn2_3)), (aWp, .inl (cI, 48, .inl wp2_4)), (qf, .inl (cI, 7, .inl f2_5)), (g0, .inr (9, [.ref m_ys, .ref m_yk, .ref m_yo, .ref m_yt, .int b0, .ref m_yfa, .ref m_yfe, .int m_mL, .int m_mS, .int m_mM, .ref m_yro, .ref m_yhe, .ref m_ygr, .int m_mF, .int m_mC, .int m_mY, .ref m_yta, .int (nI (z)), .int (nI (m_mf)), .int (nI (m_mt)), .int m_mv, .int m_mw, .ref m_ywa, .ref m_ybi, .ref m_ysi, .ref m_ynu, .ref m_ymo])), (m_ys, .inl (cI, 449, .inl ms2_11)), (m_yt, .inl (cI, 7, .inl mq2_12))] ++ tl) := hD
  refine lv_pop hx hb dL_law_945 rfl ?_
  refine lv_goto (tgt := 1483) hx hb dL_law_946 (by decide) ?_
  exact kkx _ _ _ W2_2 wn2_3 wp2_4 f2_5 ms2_11 mq2_12 P2_13 R2_14 W2_15 (xt_P hP [0, 1, 2, 3, 4, 5, 6, 7, 8] rfl) (xt_D hD [0, 1, 2, 3, 4, 5, 6, 7, 8] (by decide +kernel) rfl) i_6 i_7 i_8 i_9 i_16 i_17 i_18 i_19 i_20 i_21 i_22 i_23 i_24 hS hl
set_option maxHeartbeats 4000000 in
set_option maxRecDepth 100000 in
theorem law_23 {p : Program} {e : Env} {s : State} {m : MethodId} {below : List Frame} {meth : Method} {c : Code} (l : Launch) (D : va_G) (cI cJ cZ cS : ClassId) (ta : Nat) (sa sv : Nat → Nat) {b L : Nat} {xs : Nat → Int32} {A : Nat → Prop} (hL : L ≤ 3072) (hF : CallFix p m c cL_law 4 s #[Value.ref b] (Cond.initialized RX8 :: wsU) RL) (hr : meth.sig.returnType = ret) (hlk : meth.locks = false) (hK : va_K D vwCl (xT cI cJ cZ cS) s) (hN : XN sa s) (hX : va_X b L xs s s.heap) (hbl : b < s.heap.size) (hA : ∀ q : Nat, s.heap.size ≤ q → A q) (hbA : ¬ A b) (hAs : ∀ q, A q → s.heap.size ≤ q) (hZ : ST ta sa sv A s s.heap) (h0 g0 i : Nat) (hi : i + 6 ≤ L) (qh : Nat) (qk : Nat) (qd : Nat) (b0 : Int32) (qa : Nat) (qm : Nat) (qs : Nat) (qp : Nat) (ql : Nat) (qt : Nat) (qz : Nat) (qf : Nat) (Pa : Nat) (ae : Nat) (al : Nat) (au : Nat) (ao : Nat) (ar : Nat) (ak : Nat) (aw : Nat) (att : Nat) (ass : Nat) (fal : Nat → Int32) (fau : Nat → Int32) (fao : Nat → Int32) (Wa : Nat) (aWn : Nat) (aWp : Nat) (fawn : Nat → Int32) (fawp : Nat → Int32) (fat : Nat → Int32) (fas : Nat → Int32) (i0 : Int32) (i1 : Int32) (m_ys : Nat) (m_yk : Nat) (m_yo : Nat) (m_yt : Nat) (m_yfa : Nat) (m_yfe : Nat) (m_mL : Int32) (m_mS : Int32) (m_mM : Int32) (m_yro : Nat) (m_yhe : Nat) (m_ygr : Nat) (m_mF : Int32) (m_mC : Int32) (m_mY : Int32) (m_yta : Nat) (z : Nat) (m_mf : Nat) (m_mt : Nat) (m_mv : Int32) (m_mw : Int32) (m_ywa : Nat) (m_ybi : Nat) (m_ysi : Nat) (m_ynu : Nat) (m_ymo : Nat) (m_ms : Nat → Int32) (m_P : Nat) (m_Rn : Nat) (m_Wn : Nat) {tl : va_W} {H : Heap} {locs : List Loc} {ls : Array Slot} (hP : va_P D vwCl ([(h0, .inr (8, [.ref qh, .ref qk, .ref qd, .int b0, .ref qa, .ref qm, .ref qs, .ref qp, .ref ql, .ref qt, .ref qz, .ref qf])), (qh, .inr (1, [.int (nI (Pa)), .ref ae, .ref al, .ref au, .ref ao, .ref ar, .ref ak, .ref aw, .ref att, .ref ass])), (al, .inl (cI, 100, .inl fal)), (au, .inl (cI, 100, .inl fau)), (ao, .inl (cI, 100, .inl fao)), (aw, .inr (3, [.int (nI (Wa)), .ref aWn, .ref aWp])), (aWn, .inl (cI, 8, .inl fawn)), (aWp, .inl (cI, 48, .inl fawp)), (att, .inl (cI, 8, .inl fat)), (ass, .inl (cI, 8, .inl fas)), (ql, .inr (2, [.int i0, .int i1])), (g0, .inr (9, [.ref m_ys, .ref m_yk, .ref m_yo, .ref m_yt, .int b0, .ref m_yfa, .ref m_yfe, .int m_mL, .int m_mS, .int m_mM, .ref m_yro, .ref m_yhe, .ref m_ygr, .int m_mF, .int m_mC, .int m_mY, .ref m_yta, .int (nI (z)), .int (nI (m_mf)), .int (nI (m_mt)), .int m_mv, .int m_mw, .ref m_ywa, .ref m_ybi, .ref m_ysi, .ref m_ynu, .ref m_ymo])), (m_ys, .inl (cI, 449, .inl m_ms))] ++ tl) H) (hD : va_D A ([(h0, .inr (8, [.ref qh, .ref qk, .ref qd, .int b0, .ref qa, .ref qm, .ref qs, .ref qp, .ref ql, .ref qt, .ref qz, .ref qf])), (qh, .inr (1, [.int (nI (Pa)), .ref ae, .ref al, .ref au, .ref ao, .ref ar, .ref ak, .ref aw, .ref att, .ref ass])), (al, .inl (cI, 100, .inl fal)), (au, .inl (cI, 100, .inl fau)), (ao, .inl (cI, 100, .inl fao)), (aw, .inr (3, [.int (nI (Wa)), .ref aWn, .ref aWp])), (aWn, .inl (cI, 8, .inl fawn)), (aWp, .inl (cI, 48, .inl fawp)), (att, .inl (cI, 8, .inl fat)), (ass, .inl (cI, 8, .inl fas)), (ql, .inr (2, [.int i0, .int i1])), (g0, .inr (9, [.ref m_ys, .ref m_yk, .ref m_yo, .ref m_yt, .int b0, .ref m_yfa, .ref m_yfe, .int m_mL, .int m_mS, .int m_mM, .ref m_yro, .ref m_yhe, .ref m_ygr, .int m_mF, .int m_mC, .int m_mY, .ref m_yta, .int (nI (z)), .int (nI (m_mf)), .int (nI (m_mt)), .int m_mv, .int m_mw, .ref m_ywa, .ref m_ybi, .ref m_ysi, .ref m_ynu, .ref m_ymo])), (m_ys, .inl (cI, 449, .inl m_ms))] ++ tl)) (hP0 : Pa ≤ 10) (hWa : Wa ≤ 8) (hLLw : LL Wa fawn) (hz : z ≤ 120) (hawn : BA 8 7 fawn) (hawp : BA 48 10 fawp) (m_hs0 : m_ms 0 = nI m_P) (m_hs1 : m_ms 1 = nI m_Rn) (m_hs2 : m_ms 2 = nI m_Wn) (m_hsS : SI m_ms) (m_hsM : MI m_ms) (m_hsp : m_P ≤ 10) (m_hsr : m_Rn ≤ 8) (m_hsw : m_Wn ≤ 8) (m_hsR : RI m_Rn m_ms) (hS : va_S A s.heap H locs) (hl : lv_has ls 4 [(3, .int (nI i)), (2, .ref g0), (1, .ref h0), (0, .ref b)]) (kkx : ∀ (H : Heap) (locs : List Loc) (ls : Array Slot) (fal_n : Nat → Int32) (fau_n : Nat → Int32) (i0_n : Int32) (i1_n : Int32) (m_mC_n : Int32) (m_mY_n : Int32) (m_ms_n : Nat → Int32), va_P D vwCl ([(h0, .inr (8, [.ref qh, .ref qk, .ref qd, .int b0, .ref qa, .ref qm, .ref qs, .ref qp, .ref ql, .ref qt, .ref qz, .ref qf])), (qh, .inr (1, [.int (nI (Pa)), .ref ae, .ref al, .ref au, .ref ao, .ref ar, .ref ak, .ref aw, .ref att, .ref ass])), (al, .inl (cI, 100, .inl fal_n)), (au, .inl (cI, 100, .inl fau_n)), (ao, .inl (cI, 100, .inl fao)), (aw, .inr (3, [.int (nI (Wa)), .ref aWn, .ref aWp])), (aWn, .inl (cI, 8, .inl fawn)), (aWp, .inl (cI, 48, .inl fawp)), (att, .inl (cI, 8, .inl fat)), (ass, .inl (cI, 8, .inl fas)), (ql, .inr (2, [.int i0_n, .int i1_n])), (g0, .inr (9, [.ref m_ys, .ref m_yk, .ref m_yo, .ref m_yt, .int b0, .ref m_yfa, .ref m_yfe, .int m_mL, .int m_mS, .int m_mM, .ref m_yro, .ref m_yhe, .ref m_ygr, .int m_mF, .int m_mC_n, .int m_mY_n, .ref m_yta, .int (nI (z)), .int (nI (m_mf)), .int (nI (m_mt)), .int m_mv, .int m_mw, .ref m_ywa, .ref m_ybi, .ref m_ysi, .ref m_ynu, .ref m_ymo])), (m_ys, .inl (cI, 449, .inl m_ms_n))] ++ tl) H → va_D A ([(h0, .inr (8, [.ref qh, .ref qk, .ref qd, .int b0, .ref qa, .ref qm, .ref qs, .ref qp, .ref ql, .ref qt, .ref qz, .ref qf])), (qh, .inr (1, [.int (nI (Pa)), .ref ae, .ref al, .ref au, .ref ao, .ref ar, .ref ak, .ref aw, .ref att, .ref ass])), (al, .inl (cI, 100, .inl fal_n)), (au, .inl (cI, 100, .inl fau_n)), (ao, .inl (cI, 100, .inl fao)), (aw, .inr (3, [.int (nI (Wa)), .ref aWn, .ref aWp])), (aWn, .inl (cI, 8, .inl fawn)), (aWp, .inl (cI, 48, .inl fawp)), (att, .inl (cI, 8, .inl fat)), (ass, .inl (cI, 8, .inl fas)), (ql, .inr (2, [.int i0_n, .int i1_n])), (g0, .inr (9, [.ref m_ys, .ref m_yk, .ref m_yo, .ref m_yt, .int b0, .ref m_yfa, .ref m_yfe, .int m_mL, .int m_mS, .int m_mM, .ref m_yro, .ref m_yhe, .ref m_ygr, .int m_mF, .int m_mC_n, .int m_mY_n, .ref m_yta, .int (nI (z)), .int (nI (m_mf)), .int (nI (m_mt)), .int m_mv, .int m_mw, .ref m_ywa, .ref m_ybi, .ref m_ysi, .ref m_ynu, .ref m_ymo])), (m_ys, .inl (cI, 449, .inl m_ms_n))] ++ tl) → (m_ms_n 0 = nI m_P) → (m_ms_n 1 = nI m_Rn) → (m_ms_n 2 = nI m_Wn) → (SI m_ms_n) → (MI m_ms_n) → (RI m_Rn m_ms_n) → va_S A s.heap H locs → lv_has ls 4 [(3, .int (nI i)), (2, .ref g0), (1, .ref h0), (0, .ref b)] → W p l e room_1 s m #[Value.ref b] below meth c H locs 82 4273 (lw_Z below #[Value.ref b] s) (F0 m 1483 ls [])) : W p l e room_1 s m #[Value.ref b] below meth c H locs 82 4273 (lw_Z below #[Value.ref b] s) (F0 m 949 ls []) := by
  have hx := hF.1
  have hb := hF.2.1
  have hml := hF.2.2.1
  have hown := hF.2.2.2.1
  have hu : ∀ w ∈ wsU, w.before _ s = true := fun w h => hF.2.2.2.2 w (List.mem_cons_of_mem _ h)
  refine lv_aload_n hx hb dL_law_949 rfl (lv_at hl 2 rfl) ?_
  refine xc_ViT (wr := [(g0, .inr (9, [.ref m_ys, .ref m_yk, .ref m_yo, .ref m_yt, .int b0, .ref m_yfa, .ref m_yfe, .int m_mL, .int m_mS, .int m_mM, .ref m_yro, .ref m_yhe, .ref m_ygr, .int m_mF, .int m_mC, .int m_mY, .ref m_yta, .int (nI (z)), .int (nI (m_mf)), .int (nI (m_mt)), .int m_mv, .int m_mw, .ref m_ywa, .ref m_ybi, .ref m_ysi, .ref m_ynu, .ref m_ymo])), (m_ys, .inl (cI, 449, .inl m_ms))]) hF (c_X8_learn l D cI cJ cZ cS ta sa sv H.size h0 qh qk qd b0 qa qm qs qp ql qt qz qf Pa ae al au ao ar ak aw att ass fal fau fao Wa aWn aWp fawn fawp fat fas i0 i1 hP0 hWa hLLw hawn hawp) kv_L_111 ⟨rfl, rfl, Nat.le_of_ble_eq_true rfl, Nat.le_of_ble_eq_true rfl⟩ ⟨Nat.le_of_ble_eq_true rfl, Nat.le_of_ble_eq_true rfl⟩ hK hN hZ hP hD hS hA [0, 1, 2, 3, 4, 5, 6, 7, 8, 9, 10] [11, 12] rfl rfl rfl rfl (by decide) 0 rfl rfl rfl rfl hl.1 rfl (Nat.le_of_ble_eq_true rfl) dL_law_950 (fun r_1 u_r_1 H locs hw_r_1 hP hD hS => ?_)
  obtain ⟨l2_2, u2_3, j0_4, j1_5⟩ := u_r_1
  try dsimp only at hw_r_1
  have hP : va_P D vwCl ([(g0, .inr (9, [.ref m_ys, .ref m_yk, .ref m_yo, .ref m_yt, .int b0, .ref m_yfa, .ref m_yfe, .int m_mL, .int m_mS, .int m_mM, .ref m_yro, .ref m_yhe, .ref m_ygr, .int m_mF, .int m_mC, .int m_mY, .ref m_yta, .int (nI (z)), .int (nI (m_mf)), .int (nI (m_mt)), .int m_mv, .int m_mw, .ref m_ywa, .ref m_ybi, .ref m_ysi, .ref m_ynu, .ref m_ymo])), (m_ys, .inl (cI, 449, .inl m_ms)), (h0, .inr (8, [.ref qh, .ref qk, .ref qd, .int b0, .ref qa, .ref qm, .ref qs, .ref qp, .ref ql, .ref qt, .ref qz, .ref qf])), (qh, .inr (1, [.int (nI (Pa)), .ref ae, .ref al, .ref au, .ref ao, .ref ar, .ref ak, .ref aw, .ref att, .ref ass])), (al, .inl (cI, 100, .inl l2_2)), (au, .inl (cI, 100, .inl u2_3)), (ao, .inl (cI, 100, .inl fao)), (aw, .inr (3, [.int (nI (Wa)), .ref aWn, .ref aWp])), (aWn, .inl (cI, 8, .inl fawn)), (aWp, .inl (cI, 48, .inl fawp)), (att, .inl (cI, 8, .inl fat)), (ass, .inl (cI, 8, .inl fas)), (ql, .inr (2, [.int j0_4, .int j1_5]))] ++ tl) H := hP
  have hD : va_D A ([(g0, .inr (9, [.ref m_ys, .ref m_yk, .ref m_yo, .ref m_yt, .int b0, .ref m_yfa, .ref m_yfe, .int m_mL, .int m_mS, .int m_mM, .ref m_yro, .ref m_yhe, .ref m_ygr, .int m_mF, .int m_mC, .int m_mY, .ref m_yta, .int (nI (z)), .int (nI (m_mf)), .int (nI (m_mt)), .int m_mv, .int m_mw, .ref m_ywa, .ref m_ybi, .ref m_ysi, .ref m_ynu, .ref m_ymo])), (m_ys, .inl (cI, 449, .inl m_ms)), (h0, .inr (8, [.ref qh, .ref qk, .ref qd, .int b0, .ref qa, .ref qm, .ref qs, .ref qp, .ref ql, .ref qt, .ref qz, .ref qf])), (qh, .inr (1, [.int (nI (Pa)), .ref ae, .ref al, .ref au, .ref ao, .ref ar, .ref ak, .ref aw, .ref att, .ref ass])), (al, .inl (cI, 100, .inl l2_2)), (au, .inl (cI, 100, .inl u2_3)), (ao, .inl (cI, 100, .inl fao)), (aw, .inr (3, [.int (nI (Wa)), .ref aWn, .ref aWp])), (aWn, .inl (cI, 8, .inl fawn)), (aWp, .inl (cI, 48, .inl fawp)), (att, .inl (cI, 8, .inl fat)), (ass, .inl (cI, 8, .inl fas)), (ql, .inr (2, [.int j0_4, .int j1_5]))] ++ tl) := hD
  refine lv_pop hx hb dL_law_953 rfl ?_
  refine lv_aload_n hx hb dL_law_954 rfl (lv_at hl 1 rfl) ?_
  refine xc_ViT (wr := [(h0, .inr (8, [.ref qh, .ref qk, .ref qd, .int b0, .ref qa, .ref qm, .ref qs, .ref qp, .ref ql, .ref qt, .ref qz, .ref qf])), (qh, .inr (1, [.int (nI (Pa)), .ref ae, .ref al, .ref au, .ref ao, .ref ar, .ref ak, .ref aw, .ref att, .ref ass])), (al, .inl (cI, 100, .inl l2_2)), (au, .inl (cI, 100, .inl u2_3)), (ao, .inl (cI, 100, .inl fao)), (aw, .inr (3, [.int (nI (Wa)), .ref aWn, .ref aWp])), (aWn, .inl (cI, 8, .inl fawn)), (aWp, .inl (cI, 48, .inl fawp)), (att, .inl (cI, 8, .inl fat)), (ass, .inl (cI, 8, .inl fas)), (ql, .inr (2, [.int j0_4, .int j1_5]))]) hF (c_X9_learn l D cI cJ cZ cS ta sa sv H.size g0 m_ys m_yk m_yo m_yt b0 m_yfa m_yfe m_mL m_mS m_mM m_yro m_yhe m_ygr m_mF m_mC m_mY m_yta z m_mf m_mt m_mv m_mw m_ywa m_ybi m_ysi m_ynu m_ymo m_ms m_P m_Rn m_Wn m_hs0 m_hs1 m_hs2 m_hsS m_hsM m_hsp m_hsr m_hsw m_hsR) kv_L_114 ⟨rfl, rfl, Nat.le_of_ble_eq_true rfl, Nat.le_of_ble_eq_true rfl⟩ ⟨Nat.le_of_ble_eq_true rfl, Nat.le_of_ble_eq_true rfl⟩ hK hN hZ hP hD hS hA [0, 1] [2, 3, 4, 5, 6, 7, 8, 9, 10, 11, 12] rfl rfl rfl rfl (by decide) 0 rfl rfl rfl rfl hl.1 rfl (Nat.le_of_ble_eq_true rfl) dL_law_955 (fun r_6 u_r_6 H locs hw_r_6 hP hD hS => ?_)
  obtain ⟨mC2_7, mY2_8, ms2_9⟩ := u_r_6
  try dsimp only at hw_r_6
  obtain ⟨hw_r_6, i_10, i_11, i_12, i_13, i_14, i_15, i_16, i_17, i_18⟩ := hw_r_6
  have hP : va_P D vwCl ([(h0, .inr (8, [.ref qh, .ref qk, .ref qd, .int b0, .ref qa, .ref qm, .ref qs, .ref qp, .ref ql, .ref qt, .ref qz, .ref qf])), (qh, .inr (1, [.int (nI (Pa)), .ref ae, .ref al, .ref au, .ref ao, .ref ar, .ref ak, .ref aw, .ref att, .ref ass])), (al, .inl (cI, 100, .inl l2_2)), (au, .inl (cI, 100, .inl u2_3)), (ao, .inl (cI, 100, .inl fao)), (aw, .inr (3, [.int (nI (Wa)), .ref aWn, .ref aWp])), (aWn, .inl (cI, 8, .inl fawn)), (aWp, .inl (cI, 48, .inl fawp)), (att, .inl (cI, 8, .inl fat)), (ass, .inl (cI, 8, .inl fas)), (ql, .inr (2, [.int j0_4, .int j1_5])), (g0, .inr (9, [.ref m_ys, .ref m_yk, .ref m_yo, .ref m_yt, .int b0, .ref m_yfa, .ref m_yfe, .int m_mL, .int m_mS, .int m_mM, .ref m_yro, .ref m_yhe, .ref m_ygr, .int m_mF, .int mC2_7, .int mY2_8, .ref m_yta, .int (nI (z)), .int (nI (m_mf)), .int (nI (m_mt)), .int m_mv, .int m_mw, .ref m_ywa, .ref m_ybi, .ref m_ysi, .ref m_ynu, .ref m_ymo])), (m_ys, .inl (cI, 449, .inl ms2_9))] ++ tl) H := hP
  have hD : va_D A ([(h0, .inr (8, [.ref qh, .ref qk, .ref qd, .int b0, .ref qa, .ref qm, .ref qs, .ref qp, .ref ql, .ref qt, .ref qz, .ref qf])), (qh, .inr (1, [.int (nI (Pa)), .ref ae, .ref al, .ref au, .ref ao, .ref ar, .ref ak, .ref aw, .ref att, .ref ass])), (al, .inl (cI, 100, .inl l2_2)), (au, .inl (cI, 100, .inl u2_3)), (ao, .inl (cI, 100, .inl fao)), (aw, .inr (3, [.int (nI (Wa)), .ref aWn, .ref aWp])), (aWn, .inl (cI, 8, .inl fawn)), (aWp, .inl (cI, 48, .inl fawp)), (att, .inl (cI, 8, .inl fat)), (ass, .inl (cI, 8, .inl fas)), (ql, .inr (2, [.int j0_4, .int j1_5])), (g0, .inr (9, [.ref m_ys, .ref m_yk, .ref m_yo, .ref m_yt, .int b0, .ref m_yfa, .ref m_yfe, .int m_mL, .int m_mS, .int m_mM, .ref m_yro, .ref m_yhe, .ref m_ygr, .int m_mF, .int mC2_7, .int mY2_8, .ref m_yta, .int (nI (z)), .int (nI (m_mf)), .int (nI (m_mt)), .int m_mv, .int m_mw, .ref m_ywa, .ref m_ybi, .ref m_ysi, .ref m_ynu, .ref m_ymo])), (m_ys, .inl (cI, 449, .inl ms2_9))] ++ tl) := hD
  refine lv_pop hx hb dL_law_958 rfl ?_
  refine lv_goto (tgt := 1483) hx hb dL_law_959 (by decide) ?_
  exact kkx _ _ _ l2_2 u2_3 j0_4 j1_5 mC2_7 mY2_8 ms2_9 (xt_P hP [0, 1, 2, 3, 4, 5, 6, 7, 8, 9, 10, 11, 12] rfl) (xt_D hD [0, 1, 2, 3, 4, 5, 6, 7, 8, 9, 10, 11, 12] (by decide +kernel) rfl) i_10 i_11 i_12 i_13 i_14 i_18 hS hl
set_option maxHeartbeats 4000000 in
set_option maxRecDepth 100000 in
theorem law_24 {p : Program} {e : Env} {s : State} {m : MethodId} {below : List Frame} {meth : Method} {c : Code} (l : Launch) (D : va_G) (cI cJ cZ cS : ClassId) (ta : Nat) (sa sv : Nat → Nat) {b L : Nat} {xs : Nat → Int32} {A : Nat → Prop} (hL : L ≤ 3072) (hF : CallFix p m c cL_law 4 s #[Value.ref b] (Cond.initialized RX8 :: wsU) RL) (hr : meth.sig.returnType = ret) (hlk : meth.locks = false) (hK : va_K D vwCl (xT cI cJ cZ cS) s) (hN : XN sa s) (hX : va_X b L xs s s.heap) (hbl : b < s.heap.size) (hA : ∀ q : Nat, s.heap.size ≤ q → A q) (hbA : ¬ A b) (hAs : ∀ q, A q → s.heap.size ≤ q) (hZ : ST ta sa sv A s s.heap) (h0 g0 i : Nat) (hi : i + 6 ≤ L) (qh : Nat) (qk : Nat) (qd : Nat) (b0 : Int32) (qa : Nat) (qm : Nat) (qs : Nat) (qp : Nat) (ql : Nat) (qt : Nat) (qz : Nat) (qf : Nat) (Pa : Nat) (ae : Nat) (al : Nat) (au : Nat) (ao : Nat) (ar : Nat) (ak : Nat) (aw : Nat) (att : Nat) (ass : Nat) (fae : Nat → Int32) (fal : Nat → Int32) (fau : Nat → Int32) (fao : Nat → Int32) (Ra : Nat) (aRn : Nat) (aRp : Nat) (farn : Nat → Int32) (farp : Nat → Int32) (fak : Nat → Int32) (Wa : Nat) (aWn : Nat) (aWp : Nat) (fawn : Nat → Int32) (fawp : Nat → Int32) (fat : Nat → Int32) (fas : Nat → Int32) (Pv : Nat) (ve : Nat) (vl : Nat) (vu : Nat) (vo : Nat) (vr : Nat) (vk : Nat) (vw : Nat) (vtt : Nat) (vss : Nat) (fve : Nat → Int32) (fvl : Nat → Int32) (fvu : Nat → Int32) (fvo : Nat → Int32) (Rv : Nat) (vRn : Nat) (vRp : Nat) (fvrn : Nat → Int32) (fvrp : Nat → Int32) (fvk : Nat → Int32) (Wv : Nat) (vWn : Nat) (vWp : Nat) (fvwn : Nat → Int32) (fvwp : Nat → Int32) (fvt : Nat → Int32) (fvs : Nat → Int32) (i0 : Int32) (i1 : Int32) (m_ys : Nat) (m_yk : Nat) (m_yo : Nat) (m_yt : Nat) (m_yfa : Nat) (m_yfe : Nat) (m_mL : Int32) (m_mS : Int32) (m_mM : Int32) (m_yro : Nat) (m_yhe : Nat) (m_ygr : Nat) (m_mF : Int32) (m_mC : Int32) (m_mY : Int32) (m_yta : Nat) (z : Nat) (m_mf : Nat) (m_mt : Nat) (m_mv : Int32) (m_mw : Int32) (m_ywa : Nat) (m_ybi : Nat) (m_ysi : Nat) (m_ynu : Nat) (m_ymo : Nat) (m_ms : Nat → Int32) (m_oo : Nat → Int32) (m_P : Nat) (m_Rn : Nat) (m_Wn : Nat) {tl : va_W} {H : Heap} {locs : List Loc} {ls : Array Slot} (hP : va_P D vwCl ([(h0, .inr (8, [.ref qh, .ref qk, .ref qd, .int b0, .ref qa, .ref qm, .ref qs, .ref qp, .ref ql, .ref qt, .ref qz, .ref qf])), (qh, .inr (1, [.int (nI (Pa)), .ref ae, .ref al, .ref au, .ref ao, .ref ar, .ref ak, .ref aw, .ref att, .ref ass])), (ae, .inl (cI, 10, .inl fae)), (al, .inl (cI, 100, .inl fal)), (au, .inl (cI, 100, .inl fau)), (ao, .inl (cI, 100, .inl fao)), (ar, .inr (3, [.int (nI (Ra)), .ref aRn, .ref aRp])), (aRn, .inl (cI, 8, .inl farn)), (aRp, .inl (cI, 48, .inl farp)), (ak, .inl (cI, 8, .inl fak)), (aw, .inr (3, [.int (nI (Wa)), .ref aWn, .ref aWp])), (aWn, .inl (cI, 8, .inl fawn)), (aWp, .inl (cI, 48, .inl fawp)), (att, .inl (cI, 8, .inl fat)), (ass, .inl (cI, 8, .inl fas)), (qd, .inr (1, [.int (nI (Pv)), .ref ve, .ref vl, .ref vu, .ref vo, .ref vr, .ref vk, .ref vw, .ref vtt, .ref vss])), (ve, .inl (cI, 10, .inl fve)), (vl, .inl (cI, 100, .inl fvl)), (vu, .inl (cI, 100, .inl fvu)), (vo, .inl (cI, 100, .inl fvo)), (vr, .inr (3, [.int (nI (Rv)), .ref vRn, .ref vRp])), (vRn, .inl (cI, 8, .inl fvrn)), (vRp, .inl (cI, 48, .inl fvrp)), (vk, .inl (cI, 8, .inl fvk)), (vw, .inr (3, [.int (nI (Wv)), .ref vWn, .ref vWp])), (vWn, .inl (cI, 8, .inl fvwn)), (vWp, .inl (cI, 48, .inl fvwp)), (vtt, .inl (cI, 8, .inl fvt)), (vss, .inl (cI, 8, .inl fvs)), (ql, .inr (2, [.int i0, .int i1])), (g0, .inr (9, [.ref m_ys, .ref m_yk, .ref m_yo, .ref m_yt, .int b0, .ref m_yfa, .ref m_yfe, .int m_mL, .int m_mS, .int m_mM, .ref m_yro, .ref m_yhe, .ref m_ygr, .int m_mF, .int m_mC, .int m_mY, .ref m_yta, .int (nI (z)), .int (nI (m_mf)), .int (nI (m_mt)), .int m_mv, .int m_mw, .ref m_ywa, .ref m_ybi, .ref m_ysi, .ref m_ynu, .ref m_ymo])), (m_ys, .inl (cI, 449, .inl m_ms)), (m_yo, .inl (cI, 449, .inl m_oo))] ++ tl) H) (hD : va_D A ([(h0, .inr (8, [.ref qh, .ref qk, .ref qd, .int b0, .ref qa, .ref qm, .ref qs, .ref qp, .ref ql, .ref qt, .ref qz, .ref qf])), (qh, .inr (1, [.int (nI (Pa)), .ref ae, .ref al, .ref au, .ref ao, .ref ar, .ref ak, .ref aw, .ref att, .ref ass])), (ae, .inl (cI, 10, .inl fae)), (al, .inl (cI, 100, .inl fal)), (au, .inl (cI, 100, .inl fau)), (ao, .inl (cI, 100, .inl fao)), (ar, .inr (3, [.int (nI (Ra)), .ref aRn, .ref aRp])), (aRn, .inl (cI, 8, .inl farn)), (aRp, .inl (cI, 48, .inl farp)), (ak, .inl (cI, 8, .inl fak)), (aw, .inr (3, [.int (nI (Wa)), .ref aWn, .ref aWp])), (aWn, .inl (cI, 8, .inl fawn)), (aWp, .inl (cI, 48, .inl fawp)), (att, .inl (cI, 8, .inl fat)), (ass, .inl (cI, 8, .inl fas)), (qd, .inr (1, [.int (nI (Pv)), .ref ve, .ref vl, .ref vu, .ref vo, .ref vr, .ref vk, .ref vw, .ref vtt, .ref vss])), (ve, .inl (cI, 10, .inl fve)), (vl, .inl (cI, 100, .inl fvl)), (vu, .inl (cI, 100, .inl fvu)), (vo, .inl (cI, 100, .inl fvo)), (vr, .inr (3, [.int (nI (Rv)), .ref vRn, .ref vRp])), (vRn, .inl (cI, 8, .inl fvrn)), (vRp, .inl (cI, 48, .inl fvrp)), (vk, .inl (cI, 8, .inl fvk)), (vw, .inr (3, [.int (nI (Wv)), .ref vWn, .ref vWp])), (vWn, .inl (cI, 8, .inl fvwn)), (vWp, .inl (cI, 48, .inl fvwp)), (vtt, .inl (cI, 8, .inl fvt)), (vss, .inl (cI, 8, .inl fvs)), (ql, .inr (2, [.int i0, .int i1])), (g0, .inr (9, [.ref m_ys, .ref m_yk, .ref m_yo, .ref m_yt, .int b0, .ref m_yfa, .ref m_yfe, .int m_mL, .int m_mS, .int m_mM, .ref m_yro, .ref m_yhe, .ref m_ygr, .int m_mF, .int m_mC, .int m_mY, .ref m_yta, .int (nI (z)), .int (nI (m_mf)), .int (nI (m_mt)), .int m_mv, .int m_mw, .ref m_ywa, .ref m_ybi, .ref m_ysi, .ref m_ynu, .ref m_ymo])), (m_ys, .inl (cI, 449, .inl m_ms)), (m_yo, .inl (cI, 449, .inl m_oo))] ++ tl)) (hP0 : Pa ≤ 10) (hR : Ra ≤ 8) (hLLr : LL Ra farn) (hWa : Wa ≤ 8) (hLLw : LL Wa fawn) (hz : z ≤ 120) (harn : BA 8 7 farn) (harp : BA 48 10 farp) (hawn : BA 8 7 fawn) (hawp : BA 48 10 fawp) (hvrn : BA 8 7 fvrn) (hvrp : BA 48 10 fvrp) (hvwn : BA 8 7 fvwn) (hvwp : BA 48 10 fvwp) (m_hs0 : m_ms 0 = nI m_P) (m_hs1 : m_ms 1 = nI m_Rn) (m_hs2 : m_ms 2 = nI m_Wn) (m_hsS : SI m_ms) (m_hsM : MI m_ms) (m_hsp : m_P ≤ 10) (m_hsr : m_Rn ≤ 8) (m_hsw : m_Wn ≤ 8) (m_hsR : RI m_Rn m_ms) (hS : va_S A s.heap H locs) (hl : lv_has ls 4 [(3, .int (nI i)), (2, .ref g0), (1, .ref h0), (0, .ref b)]) (kkx : ∀ (H : Heap) (locs : List Loc) (ls : Array Slot) (Pv_n : Nat) (fve_n : Nat → Int32) (fvl_n : Nat → Int32) (fvu_n : Nat → Int32) (fvo_n : Nat → Int32) (Rv_n : Nat) (fvrn_n : Nat → Int32) (fvrp_n : Nat → Int32) (fvk_n : Nat → Int32) (Wv_n : Nat) (fvwn_n : Nat → Int32) (fvwp_n : Nat → Int32) (fvt_n : Nat → Int32) (fvs_n : Nat → Int32) (i0_n : Int32) (i1_n : Int32) (m_mC_n : Int32) (m_mY_n : Int32) (m_ms_n : Nat → Int32) (m_oo_n : Nat → Int32), va_P D vwCl ([(h0, .inr (8, [.ref qh, .ref qk, .ref qd, .int b0, .ref qa, .ref qm, .ref qs, .ref qp, .ref ql, .ref qt, .ref qz, .ref qf])), (qh, .inr (1, [.int (nI (Pa)), .ref ae, .ref al, .ref au, .ref ao, .ref ar, .ref ak, .ref aw, .ref att, .ref ass])), (ae, .inl (cI, 10, .inl fae)), (al, .inl (cI, 100, .inl fal)), (au, .inl (cI, 100, .inl fau)), (ao, .inl (cI, 100, .inl fao)), (ar, .inr (3, [.int (nI (Ra)), .ref aRn, .ref aRp])), (aRn, .inl (cI, 8, .inl farn)), (aRp, .inl (cI, 48, .inl farp)), (ak, .inl (cI, 8, .inl fak)), (aw, .inr (3, [.int (nI (Wa)), .ref aWn, .ref aWp])), (aWn, .inl (cI, 8, .inl fawn)), (aWp, .inl (cI, 48, .inl fawp)), (att, .inl (cI, 8, .inl fat)), (ass, .inl (cI, 8, .inl fas)), (qd, .inr (1, [.int (nI (Pv_n)), .ref ve, .ref vl, .ref vu, .ref vo, .ref vr, .ref vk, .ref vw, .ref vtt, .ref vss])), (ve, .inl (cI, 10, .inl fve_n)), (vl, .inl (cI, 100, .inl fvl_n)), (vu, .inl (cI, 100, .inl fvu_n)), (vo, .inl (cI, 100, .inl fvo_n)), (vr, .inr (3, [.int (nI (Rv_n)), .ref vRn, .ref vRp])), (vRn, .inl (cI, 8, .inl fvrn_n)), (vRp, .inl (cI, 48, .inl fvrp_n)), (vk, .inl (cI, 8, .inl fvk_n)), (vw, .inr (3, [.int (nI (Wv_n)), .ref vWn, .ref vWp])), (vWn, .inl (cI, 8, .inl fvwn_n)), (vWp, .inl (cI, 48, .inl fvwp_n)), (vtt, .inl (cI, 8, .inl fvt_n)), (vss, .inl (cI, 8, .inl fvs_n)), (ql, .inr (2, [.int i0_n, .int i1_n])), (g0, .inr (9, [.ref m_ys, .ref m_yk, .ref m_yo, .ref m_yt, .int b0, .ref m_yfa, .ref m_yfe, .int m_mL, .int m_mS, .int m_mM, .ref m_yro, .ref m_yhe, .ref m_ygr, .int m_mF, .int m_mC_n, .int m_mY_n, .ref m_yta, .int (nI (z)), .int (nI (m_mf)), .int (nI (m_mt)), .int m_mv, .int m_mw, .ref m_ywa, .ref m_ybi, .ref m_ysi, .ref m_ynu, .ref m_ymo])), (m_ys, .inl (cI, 449, .inl m_ms_n)), (m_yo, .inl (cI, 449, .inl m_oo_n))] ++ tl) H → va_D A ([(h0, .inr (8, [.ref qh, .ref qk, .ref qd, .int b0, .ref qa, .ref qm, .ref qs, .ref qp, .ref ql, .ref qt, .ref qz, .ref qf])), (qh, .inr (1, [.int (nI (Pa)), .ref ae, .ref al, .ref au, .ref ao, .ref ar, .ref ak, .ref aw, .ref att, .ref ass])), (ae, .inl (cI, 10, .inl fae)), (al, .inl (cI, 100, .inl fal)), (au, .inl (cI, 100, .inl fau)), (ao, .inl (cI, 100, .inl fao)), (ar, .inr (3, [.int (nI (Ra)), .ref aRn, .ref aRp])), (aRn, .inl (cI, 8, .inl farn)), (aRp, .inl (cI, 48, .inl farp)), (ak, .inl (cI, 8, .inl fak)), (aw, .inr (3, [.int (nI (Wa)), .ref aWn, .ref aWp])), (aWn, .inl (cI, 8, .inl fawn)), (aWp, .inl (cI, 48, .inl fawp)), (att, .inl (cI, 8, .inl fat)), (ass, .inl (cI, 8, .inl fas)), (qd, .inr (1, [.int (nI (Pv_n)), .ref ve, .ref vl, .ref vu, .ref vo, .ref vr, .ref vk, .ref vw, .ref vtt, .ref vss])), (ve, .inl (cI, 10, .inl fve_n)), (vl, .inl (cI, 100, .inl fvl_n)), (vu, .inl (cI, 100, .inl fvu_n)), (vo, .inl (cI, 100, .inl fvo_n)), (vr, .inr (3, [.int (nI (Rv_n)), .ref vRn, .ref vRp])), (vRn, .inl (cI, 8, .inl fvrn_n)), (vRp, .inl (cI, 48, .inl fvrp_n)), (vk, .inl (cI, 8, .inl fvk_n)), (vw, .inr (3, [.int (nI (Wv_n)), .ref vWn, .ref vWp])), (vWn, .inl (cI, 8, .inl fvwn_n)), (vWp, .inl (cI, 48, .inl fvwp_n)), (vtt, .inl (cI, 8, .inl fvt_n)), (vss, .inl (cI, 8, .inl fvs_n)), (ql, .inr (2, [.int i0_n, .int i1_n])), (g0, .inr (9, [.ref m_ys, .ref m_yk, .ref m_yo, .ref m_yt, .int b0, .ref m_yfa, .ref m_yfe, .int m_mL, .int m_mS, .int m_mM, .ref m_yro, .ref m_yhe, .ref m_ygr, .int m_mF, .int m_mC_n, .int m_mY_n, .ref m_yta, .int (nI (z)), .int (nI (m_mf)), .int (nI (m_mt)), .int m_mv, .int m_mw, .ref m_ywa, .ref m_ybi, .ref m_ysi, .ref m_ynu, .ref m_ymo])), (m_ys, .inl (cI, 449, .inl m_ms_n)), (m_yo, .inl (cI, 449, .inl m_oo_n))] ++ tl) → (BA 8 7 fvrn_n) → (BA 48 10 fvrp_n) → (BA 8 7 fvwn_n) → (BA 48 10 fvwp_n) → (m_ms_n 0 = nI m_P) → (m_ms_n 1 = nI m_Rn) → (m_ms_n 2 = nI m_Wn) → (SI m_ms_n) → (MI m_ms_n) → (RI m_Rn m_ms_n) → va_S A s.heap H locs → lv_has ls 4 [(3, .int (nI i)), (2, .ref g0), (1, .ref h0), (0, .ref b)] → W p l e room_1 s m #[Value.ref b] below meth c H locs 82 4273 (lw_Z below #[Value.ref b] s) (F0 m 1483 ls [])) : W p l e room_1 s m #[Value.ref b] below meth c H locs 82 4273 (lw_Z below #[Value.ref b] s) (F0 m 962 ls []) := by
  have hx := hF.1
  have hb := hF.2.1
  have hml := hF.2.2.1
  have hown := hF.2.2.2.1
  have hu : ∀ w ∈ wsU, w.before _ s = true := fun w h => hF.2.2.2.2 w (List.mem_cons_of_mem _ h)
  refine lv_aload_n hx hb dL_law_962 rfl (lv_at hl 2 rfl) ?_
  refine xc_ViT (wr := [(g0, .inr (9, [.ref m_ys, .ref m_yk, .ref m_yo, .ref m_yt, .int b0, .ref m_yfa, .ref m_yfe, .int m_mL, .int m_mS, .int m_mM, .ref m_yro, .ref m_yhe, .ref m_ygr, .int m_mF, .int m_mC, .int m_mY, .ref m_yta, .int (nI (z)), .int (nI (m_mf)), .int (nI (m_mt)), .int m_mv, .int m_mw, .ref m_ywa, .ref m_ybi, .ref m_ysi, .ref m_ynu, .ref m_ymo])), (m_ys, .inl (cI, 449, .inl m_ms)), (m_yo, .inl (cI, 449, .inl m_oo))]) hF (c_X8_lies l D cI cJ cZ cS ta sa sv H.size h0 qh qk qd b0 qa qm qs qp ql qt qz qf Pa ae al au ao ar ak aw att ass fae fal fau fao Ra aRn aRp farn farp fak Wa aWn aWp fawn fawp fat fas Pv ve vl vu vo vr vk vw vtt vss fve fvl fvu fvo Rv vRn vRp fvrn fvrp fvk Wv vWn vWp fvwn fvwp fvt fvs i0 i1 hP0 hR hLLr hWa hLLw harn harp hawn hawp hvrn hvrp hvwn hvwp) kv_L_115 ⟨rfl, rfl, Nat.le_of_ble_eq_true rfl, Nat.le_of_ble_eq_true rfl⟩ ⟨Nat.le_of_ble_eq_true rfl, Nat.le_of_ble_eq_true rfl⟩ hK hN hZ hP hD hS hA [0, 1, 2, 3, 4, 5, 6, 7, 8, 9, 10, 11, 12, 13, 14, 15, 16, 17, 18, 19, 20, 21, 22, 23, 24, 25, 26, 27, 28, 29] [30, 31, 32] rfl rfl rfl rfl (by decide) 0 rfl rfl rfl rfl hl.1 rfl (Nat.le_of_ble_eq_true rfl) dL_law_963 (fun r_1 u_r_1 H locs hw_r_1 hP hD hS => ?_)
  obtain ⟨ye_2, yl_3, yu_4, yo_5, yrn_6, yrp_7, yk_8, ywn_9, ywp_10, yt_11, ys_12, j0_13, j1_14⟩ := u_r_1
  try dsimp only at hw_r_1
  obtain ⟨hw_r_1, i_15, i_16, i_17, i_18⟩ := hw_r_1
  have hP : va_P D vwCl ([(g0, .inr (9, [.ref m_ys, .ref m_yk, .ref m_yo, .ref m_yt, .int b0, .ref m_yfa, .ref m_yfe, .int m_mL, .int m_mS, .int m_mM, .ref m_yro, .ref m_yhe, .ref m_ygr, .int m_mF, .int m_mC, .int m_mY, .ref m_yta, .int (nI (z)), .int (nI (m_mf)), .int (nI (m_mt)), .int m_mv, .int m_mw, .ref m_ywa, .ref m_ybi, .ref m_ysi, .ref m_ynu, .ref m_ymo])), (m_ys, .inl (cI, 449, .inl m_ms)), (m_yo, .inl (cI, 449, .inl m_oo)), (h0, .inr (8, [.ref qh, .ref qk, .ref qd, .int b0, .ref qa, .ref qm, .ref qs, .ref qp, .ref ql, .ref qt, .ref qz, .ref qf])), (qh, .inr (1, [.int (nI (Pa)), .ref ae, .ref al, .ref au, .ref ao, .ref ar, .ref ak, .ref aw, .ref att, .ref ass])), (ae, .inl (cI, 10, .inl fae)), (al, .inl (cI, 100, .inl fal)), (au, .inl (cI, 100, .inl fau)), (ao, .inl (cI, 100, .inl fao)), (ar, .inr (3, [.int (nI (Ra)), .ref aRn, .ref aRp])), (aRn, .inl (cI, 8, .inl farn)), (aRp, .inl (cI, 48, .inl farp)), (ak, .inl (cI, 8, .inl fak)), (aw, .inr (3, [.int (nI (Wa)), .ref aWn, .ref aWp])), (aWn, .inl (cI, 8, .inl fawn)), (aWp, .inl (cI, 48, .inl fawp)), (att, .inl (cI, 8, .inl fat)), (ass, .inl (cI, 8, .inl fas)), (qd, .inr (1, [.int (nI (Pa)), .ref ve, .ref vl, .ref vu, .ref vo, .ref vr, .ref vk, .ref vw, .ref vtt, .ref vss])), (ve, .inl (cI, 10, .inl ye_2)), (vl, .inl (cI, 100, .inl yl_3)), (vu, .inl (cI, 100, .inl yu_4)), (vo, .inl (cI, 100, .inl yo_5)), (vr, .inr (3, [.int (nI (Ra)), .ref vRn, .ref vRp])), (vRn, .inl (cI, 8, .inl yrn_6)), (vRp, .inl (cI, 48, .inl yrp_7)), (vk, .inl (cI, 8, .inl yk_8)), (vw, .inr (3, [.int (nI (Wa)), .ref vWn, .ref vWp])), (vWn, .inl (cI, 8, .inl ywn_9)), (vWp, .inl (cI, 48, .inl ywp_10)), (vtt, .inl (cI, 8, .inl yt_11)), (vss, .inl (cI, 8, .inl ys_12)), (ql, .inr (2, [.int j0_13, .int j1_14]))] ++ tl) H := hP
  have hD : va_D A ([(g0, .inr (9, [.ref m_ys, .ref m_yk, .ref m_yo, .ref m_yt, .int b0, .ref m_yfa, .ref m_yfe, .int m_mL, .int m_mS, .int m_mM, .ref m_yro, .ref m_yhe, .ref m_ygr, .int m_mF, .int m_mC, .int m_mY, .ref m_yta, .int (nI (z)), .int (nI (m_mf)), .int (nI (m_mt)), .int m_mv, .int m_mw, .ref m_ywa, .ref m_ybi, .ref m_ysi, .ref m_ynu, .ref m_ymo])), (m_ys, .inl (cI, 449, .inl m_ms)), (m_yo, .inl (cI, 449, .inl m_oo)), (h0, .inr (8, [.ref qh, .ref qk, .ref qd, .int b0, .ref qa, .ref qm, .ref qs, .ref qp, .ref ql, .ref qt, .ref qz, .ref qf])), (qh, .inr (1, [.int (nI (Pa)), .ref ae, .ref al, .ref au, .ref ao, .ref ar, .ref ak, .ref aw, .ref att, .ref ass])), (ae, .inl (cI, 10, .inl fae)), (al, .inl (cI, 100, .inl fal)), (au, .inl (cI, 100, .inl fau)), (ao, .inl (cI, 100, .inl fao)), (ar, .inr (3, [.int (nI (Ra)), .ref aRn, .ref aRp])), (aRn, .inl (cI, 8, .inl farn)), (aRp, .inl (cI, 48, .inl farp)), (ak, .inl (cI, 8, .inl fak)), (aw, .inr (3, [.int (nI (Wa)), .ref aWn, .ref aWp])), (aWn, .inl (cI, 8, .inl fawn)), (aWp, .inl (cI, 48, .inl fawp)), (att, .inl (cI, 8, .inl fat)), (ass, .inl (cI, 8, .inl fas)), (qd, .inr (1, [.int (nI (Pa)), .ref ve, .ref vl, .ref vu, .ref vo, .ref vr, .ref vk, .ref vw, .ref vtt, .ref vss])), (ve, .inl (cI, 10, .inl ye_2)), (vl, .inl (cI, 100, .inl yl_3)), (vu, .inl (cI, 100, .inl yu_4)), (vo, .inl (cI, 100, .inl yo_5)), (vr, .inr (3, [.int (nI (Ra)), .ref vRn, .ref vRp])), (vRn, .inl (cI, 8, .inl yrn_6)), (vRp, .inl (cI, 48, .inl yrp_7)), (vk, .inl (cI, 8, .inl yk_8)), (vw, .inr (3, [.int (nI (Wa)), .ref vWn, .ref vWp])), (vWn, .inl (cI, 8, .inl ywn_9)), (vWp, .inl (cI, 48, .inl ywp_10)), (vtt, .inl (cI, 8, .inl yt_11)), (vss, .inl (cI, 8, .inl ys_12)), (ql, .inr (2, [.int j0_13, .int j1_14]))] ++ tl) := hD
  refine lv_pop hx hb dL_law_966 rfl ?_
  refine lv_aload_n hx hb dL_law_967 rfl (lv_at hl 1 rfl) ?_
  refine xc_ViT (wr := [(h0, .inr (8, [.ref qh, .ref qk, .ref qd, .int b0, .ref qa, .ref qm, .ref qs, .ref qp, .ref ql, .ref qt, .ref qz, .ref qf])), (qh, .inr (1, [.int (nI (Pa)), .ref ae, .ref al, .ref au, .ref ao, .ref ar, .ref ak, .ref aw, .ref att, .ref ass])), (ae, .inl (cI, 10, .inl fae)), (al, .inl (cI, 100, .inl fal)), (au, .inl (cI, 100, .inl fau)), (ao, .inl (cI, 100, .inl fao)), (ar, .inr (3, [.int (nI (Ra)), .ref aRn, .ref aRp])), (aRn, .inl (cI, 8, .inl farn)), (aRp, .inl (cI, 48, .inl farp)), (ak, .inl (cI, 8, .inl fak)), (aw, .inr (3, [.int (nI (Wa)), .ref aWn, .ref aWp])), (aWn, .inl (cI, 8, .inl fawn)), (aWp, .inl (cI, 48, .inl fawp)), (att, .inl (cI, 8, .inl fat)), (ass, .inl (cI, 8, .inl fas)), (qd, .inr (1, [.int (nI (Pa)), .ref ve, .ref vl, .ref vu, .ref vo, .ref vr, .ref vk, .ref vw, .ref vtt, .ref vss])), (ve, .inl (cI, 10, .inl ye_2)), (vl, .inl (cI, 100, .inl yl_3)), (vu, .inl (cI, 100, .inl yu_4)), (vo, .inl (cI, 100, .inl yo_5)), (vr, .inr (3, [.int (nI (Ra)), .ref vRn, .ref vRp])), (vRn, .inl (cI, 8, .inl yrn_6)), (vRp, .inl (cI, 48, .inl yrp_7)), (vk, .inl (cI, 8, .inl yk_8)), (vw, .inr (3, [.int (nI (Wa)), .ref vWn, .ref vWp])), (vWn, .inl (cI, 8, .inl ywn_9)), (vWp, .inl (cI, 48, .inl ywp_10)), (vtt, .inl (cI, 8, .inl yt_11)), (vss, .inl (cI, 8, .inl ys_12)), (ql, .inr (2, [.int j0_13, .int j1_14]))]) hF (c_X9_lies l D cI cJ cZ cS ta sa sv H.size g0 m_ys m_yk m_yo m_yt b0 m_yfa m_yfe m_mL m_mS m_mM m_yro m_yhe m_ygr m_mF m_mC m_mY m_yta z m_mf m_mt m_mv m_mw m_ywa m_ybi m_ysi m_ynu m_ymo m_ms m_oo m_P m_Rn m_Wn m_hs0 m_hs1 m_hs2 m_hsS m_hsM m_hsp m_hsr m_hsw m_hsR) kv_L_118 ⟨rfl, rfl, Nat.le_of_ble_eq_true rfl, Nat.le_of_ble_eq_true rfl⟩ ⟨Nat.le_of_ble_eq_true rfl, Nat.le_of_ble_eq_true rfl⟩ hK hN hZ hP hD hS hA [0, 1, 2] [3, 4, 5, 6, 7, 8, 9, 10, 11, 12, 13, 14, 15, 16, 17, 18, 19, 20, 21, 22, 23, 24, 25, 26, 27, 28, 29, 30, 31, 32] rfl rfl rfl rfl (by decide) 0 rfl rfl rfl rfl hl.1 rfl (Nat.le_of_ble_eq_true rfl) dL_law_968 (fun r_19 u_r_19 H locs hw_r_19 hP hD hS => ?_)
  obtain ⟨mC2_20, mY2_21, ms2_22, oo2_23⟩ := u_r_19
  try dsimp only at hw_r_19
  obtain ⟨hw_r_19, i_24, i_25, i_26, i_27, i_28, i_29, i_30, i_31, i_32⟩ := hw_r_19
  have hP : va_P D vwCl ([(h0, .inr (8, [.ref qh, .ref qk, .ref qd, .int b0, .ref qa, .ref qm, .ref qs, .ref qp, .ref ql, .ref qt, .ref qz, .ref qf])), (qh, .inr (1, [.int (nI (Pa)), .ref ae, .ref al, .ref au, .ref ao, .ref ar, .ref ak, .ref aw, .ref att, .ref ass])), (ae, .inl (cI, 10, .inl fae)), (al, .inl (cI, 100, .inl fal)), (au, .inl (cI, 100, .inl fau)), (ao, .inl (cI, 100, .inl fao)), (ar, .inr (3, [.int (nI (Ra)), .ref aRn, .ref aRp])), (aRn, .inl (cI, 8, .inl farn)), (aRp, .inl (cI, 48, .inl farp)), (ak, .inl (cI, 8, .inl fak)), (aw, .inr (3, [.int (nI (Wa)), .ref aWn, .ref aWp])), (aWn, .inl (cI, 8, .inl fawn)), (aWp, .inl (cI, 48, .inl fawp)), (att, .inl (cI, 8, .inl fat)), (ass, .inl (cI, 8, .inl fas)), (qd, .inr (1, [.int (nI (Pa)), .ref ve, .ref vl, .ref vu, .ref vo, .ref vr, .ref vk, .ref vw, .ref vtt, .ref vss])), (ve, .inl (cI, 10, .inl ye_2)), (vl, .inl (cI, 100, .inl yl_3)), (vu, .inl (cI, 100, .inl yu_4)), (vo, .inl (cI, 100, .inl yo_5)), (vr, .inr (3, [.int (nI (Ra)), .ref vRn, .ref vRp])), (vRn, .inl (cI, 8, .inl yrn_6)), (vRp, .inl (cI, 48, .inl yrp_7)), (vk, .inl (cI, 8, .inl yk_8)), (vw, .inr (3, [.int (nI (Wa)), .ref vWn, .ref vWp])), (vWn, .inl (cI, 8, .inl ywn_9)), (vWp, .inl (cI, 48, .inl ywp_10)), (vtt, .inl (cI, 8, .inl yt_11)), (vss, .inl (cI, 8, .inl ys_12)), (ql, .inr (2, [.int j0_13, .int j1_14])), (g0, .inr (9, [.ref m_ys, .ref m_yk, .ref m_yo, .ref m_yt, .int b0, .ref m_yfa, .ref m_yfe, .int m_mL, .int m_mS, .int m_mM, .ref m_yro, .ref m_yhe, .ref m_ygr, .int m_mF, .int mC2_20, .int mY2_21, .ref m_yta, .int (nI (z)), .int (nI (m_mf)), .int (nI (m_mt)), .int m_mv, .int m_mw, .ref m_ywa, .ref m_ybi, .ref m_ysi, .ref m_ynu, .ref m_ymo])), (m_ys, .inl (cI, 449, .inl ms2_22)), (m_yo, .inl (cI, 449, .inl oo2_23))] ++ tl) H := hP
  have hD : va_D A ([(h0, .inr (8, [.ref qh, .ref qk, .ref qd, .int b0, .ref qa, .ref qm, .ref qs, .ref qp, .ref ql, .ref qt, .ref qz, .ref qf])), (qh, .inr (1, [.int (nI (Pa)), .ref ae, .ref al, .ref au, .ref ao, .ref ar, .ref ak, .ref aw, .ref att, .ref ass])), (ae, .inl (cI, 10, .inl fae)), (al, .inl (cI, 100, .inl fal)), (au, .inl (cI, 100, .inl fau)), (ao, .inl (cI, 100, .inl fao)), (ar, .inr (3, [.int (nI (Ra)), .ref aRn, .ref aRp])), (aRn, .inl (cI, 8, .inl farn)), (aRp, .inl (cI, 48, .inl farp)), (ak, .inl (cI, 8, .inl fak)), (aw, .inr (3, [.int (nI (Wa)), .ref aWn, .ref aWp])), (aWn, .inl (cI, 8, .inl fawn)), (aWp, .inl (cI, 48, .inl fawp)), (att, .inl (cI, 8, .inl fat)), (ass, .inl (cI, 8, .inl fas)), (qd, .inr (1, [.int (nI (Pa)), .ref ve, .ref vl, .ref vu, .ref vo, .ref vr, .ref vk, .ref vw, .ref vtt, .ref vss])), (ve, .inl (cI, 10, .inl ye_2)), (vl, .inl (cI, 100, .inl yl_3)), (vu, .inl (cI, 100, .inl yu_4)), (vo, .inl (cI, 100, .inl yo_5)), (vr, .inr (3, [.int (nI (Ra)), .ref vRn, .ref vRp])), (vRn, .inl (cI, 8, .inl yrn_6)), (vRp, .inl (cI, 48, .inl yrp_7)), (vk, .inl (cI, 8, .inl yk_8)), (vw, .inr (3, [.int (nI (Wa)), .ref vWn, .ref vWp])), (vWn, .inl (cI, 8, .inl ywn_9)), (vWp, .inl (cI, 48, .inl ywp_10)), (vtt, .inl (cI, 8, .inl yt_11)), (vss, .inl (cI, 8, .inl ys_12)), (ql, .inr (2, [.int j0_13, .int j1_14])), (g0, .inr (9, [.ref m_ys, .ref m_yk, .ref m_yo, .ref m_yt, .int b0, .ref m_yfa, .ref m_yfe, .int m_mL, .int m_mS, .int m_mM, .ref m_yro, .ref m_yhe, .ref m_ygr, .int m_mF, .int mC2_20, .int mY2_21, .ref m_yta, .int (nI (z)), .int (nI (m_mf)), .int (nI (m_mt)), .int m_mv, .int m_mw, .ref m_ywa, .ref m_ybi, .ref m_ysi, .ref m_ynu, .ref m_ymo])), (m_ys, .inl (cI, 449, .inl ms2_22)), (m_yo, .inl (cI, 449, .inl oo2_23))] ++ tl) := hD
  refine lv_pop hx hb dL_law_971 rfl ?_
  refine lv_goto (tgt := 1483) hx hb dL_law_972 (by decide) ?_
  exact kkx _ _ _ Pa ye_2 yl_3 yu_4 yo_5 Ra yrn_6 yrp_7 yk_8 Wa ywn_9 ywp_10 yt_11 ys_12 j0_13 j1_14 mC2_20 mY2_21 ms2_22 oo2_23 (xt_P hP [0, 1, 2, 3, 4, 5, 6, 7, 8, 9, 10, 11, 12, 13, 14, 15, 16, 17, 18, 19, 20, 21, 22, 23, 24, 25, 26, 27, 28, 29, 30, 31, 32] rfl) (xt_D hD [0, 1, 2, 3, 4, 5, 6, 7, 8, 9, 10, 11, 12, 13, 14, 15, 16, 17, 18, 19, 20, 21, 22, 23, 24, 25, 26, 27, 28, 29, 30, 31, 32] (by decide +kernel) rfl) i_15 i_16 i_17 i_18 i_24 i_25 i_26 i_27 i_28 i_32 hS hl
set_option maxHeartbeats 4000000 in
set_option maxRecDepth 100000 in
theorem law_25 {p : Program} {e : Env} {s : State} {m : MethodId} {below : List Frame} {meth : Method} {c : Code} (l : Launch) (D : va_G) (cI cJ cZ cS : ClassId) (ta : Nat) (sa sv : Nat → Nat) {b L : Nat} {xs : Nat → Int32} {A : Nat → Prop} (hL : L ≤ 3072) (hF : CallFix p m c cL_law 4 s #[Value.ref b] (Cond.initialized RX8 :: wsU) RL) (hr : meth.sig.returnType = ret) (hlk : meth.locks = false) (hK : va_K D vwCl (xT cI cJ cZ cS) s) (hN : XN sa s) (hX : va_X b L xs s s.heap) (hbl : b < s.heap.size) (hA : ∀ q : Nat, s.heap.size ≤ q → A q) (hbA : ¬ A b) (hAs : ∀ q, A q → s.heap.size ≤ q) (hZ : ST ta sa sv A s s.heap) (h0 g0 i : Nat) (hi : i + 6 ≤ L) (qh : Nat) (qk : Nat) (qd : Nat) (b0 : Int32) (qa : Nat) (qm : Nat) (qs : Nat) (qp : Nat) (ql : Nat) (qt : Nat) (qz : Nat) (qf : Nat) (Pa : Nat) (ae : Nat) (al : Nat) (au : Nat) (ao : Nat) (ar : Nat) (ak : Nat) (aw : Nat) (att : Nat) (ass : Nat) (fal : Nat → Int32) (fau : Nat → Int32) (fao : Nat → Int32) (ff : Nat → Int32) (m_ys : Nat) (m_yk : Nat) (m_yo : Nat) (m_yt : Nat) (m_yfa : Nat) (m_yfe : Nat) (m_mL : Int32) (m_mS : Int32) (m_mM : Int32) (m_yro : Nat) (m_yhe : Nat) (m_ygr : Nat) (m_mF : Int32) (m_mC : Int32) (m_mY : Int32) (m_yta : Nat) (z : Nat) (m_mf : Nat) (m_mt : Nat) (m_mv : Int32) (m_mw : Int32) (m_ywa : Nat) (m_ybi : Nat) (m_ysi : Nat) (m_ynu : Nat) (m_ymo : Nat) (m_ms : Nat → Int32) (m_mq : Nat → Int32) (m_P : Nat) (m_Rn : Nat) (m_Wn : Nat) {tl : va_W} {H : Heap} {locs : List Loc} {ls : Array Slot} (hP : va_P D vwCl ([(h0, .inr (8, [.ref qh, .ref qk, .ref qd, .int b0, .ref qa, .ref qm, .ref qs, .ref qp, .ref ql, .ref qt, .ref qz, .ref qf])), (qh, .inr (1, [.int (nI (Pa)), .ref ae, .ref al, .ref au, .ref ao, .ref ar, .ref ak, .ref aw, .ref att, .ref ass])), (al, .inl (cI, 100, .inl fal)), (au, .inl (cI, 100, .inl fau)), (ao, .inl (cI, 100, .inl fao)), (qf, .inl (cI, 7, .inl ff)), (g0, .inr (9, [.ref m_ys, .ref m_yk, .ref m_yo, .ref m_yt, .int b0, .ref m_yfa, .ref m_yfe, .int m_mL, .int m_mS, .int m_mM, .ref m_yro, .ref m_yhe, .ref m_ygr, .int m_mF, .int m_mC, .int m_mY, .ref m_yta, .int (nI (z)), .int (nI (m_mf)), .int (nI (m_mt)), .int m_mv, .int m_mw, .ref m_ywa, .ref m_ybi, .ref m_ysi, .ref m_ynu, .ref m_ymo])), (m_ys, .inl (cI, 449, .inl m_ms)), (m_yt, .inl (cI, 7, .inl m_mq))] ++ tl) H) (hD : va_D A ([(h0, .inr (8, [.ref qh, .ref qk, .ref qd, .int b0, .ref qa, .ref qm, .ref qs, .ref qp, .ref ql, .ref qt, .ref qz, .ref qf])), (qh, .inr (1, [.int (nI (Pa)), .ref ae, .ref al, .ref au, .ref ao, .ref ar, .ref ak, .ref aw, .ref att, .ref ass])), (al, .inl (cI, 100, .inl fal)), (au, .inl (cI, 100, .inl fau)), (ao, .inl (cI, 100, .inl fao)), (qf, .inl (cI, 7, .inl ff)), (g0, .inr (9, [.ref m_ys, .ref m_yk, .ref m_yo, .ref m_yt, .int b0, .ref m_yfa, .ref m_yfe, .int m_mL, .int m_mS, .int m_mM, .ref m_yro, .ref m_yhe, .ref m_ygr, .int m_mF, .int m_mC, .int m_mY, .ref m_yta, .int (nI (z)), .int (nI (m_mf)), .int (nI (m_mt)), .int m_mv, .int m_mw, .ref m_ywa, .ref m_ybi, .ref m_ysi, .ref m_ynu, .ref m_ymo])), (m_ys, .inl (cI, 449, .inl m_ms)), (m_yt, .inl (cI, 7, .inl m_mq))] ++ tl)) (hP0 : Pa ≤ 10) (hz : z ≤ 120) (m_hs0 : m_ms 0 = nI m_P) (m_hs1 : m_ms 1 = nI m_Rn) (m_hs2 : m_ms 2 = nI m_Wn) (m_hsS : SI m_ms) (m_hsM : MI m_ms) (m_hsp : m_P ≤ 10) (m_hsr : m_Rn ≤ 8) (m_hsw : m_Wn ≤ 8) (m_hsR : RI m_Rn m_ms) (hS : va_S A s.heap H locs) (hl : lv_has ls 4 [(3, .int (nI i)), (2, .ref g0), (1, .ref h0), (0, .ref b)]) (kkx : ∀ (H : Heap) (locs : List Loc) (ls : Array Slot) (ff_n : Nat → Int32) (m_mq_n : Nat → Int32), va_P D vwCl ([(h0, .inr (8, [.ref qh, .ref qk, .ref qd, .int b0, .ref qa, .ref qm, .ref qs, .ref qp, .ref ql, .ref qt, .ref qz, .ref qf])), (qh, .inr (1, [.int (nI (Pa)), .ref ae, .ref al, .ref au, .ref ao, .ref ar, .ref ak, .ref aw, .ref att, .ref ass])), (al, .inl (cI, 100, .inl fal)), (au, .inl (cI, 100, .inl fau)), (ao, .inl (cI, 100, .inl fao)), (qf, .inl (cI, 7, .inl ff_n)), (g0, .inr (9, [.ref m_ys, .ref m_yk, .ref m_yo, .ref m_yt, .int b0, .ref m_yfa, .ref m_yfe, .int m_mL, .int m_mS, .int m_mM, .ref m_yro, .ref m_yhe, .ref m_ygr, .int m_mF, .int m_mC, .int m_mY, .ref m_yta, .int (nI (z)), .int (nI (m_mf)), .int (nI (m_mt)), .int m_mv, .int m_mw, .ref m_ywa, .ref m_ybi, .ref m_ysi, .ref m_ynu, .ref m_ymo])), (m_ys, .inl (cI, 449, .inl m_ms)), (m_yt, .inl (cI, 7, .inl m_mq_n))] ++ tl) H → va_D A ([(h0, .inr (8, [.ref qh, .ref qk, .ref qd, .int b0, .ref qa, .ref qm, .ref qs, .ref qp, .ref ql, .ref qt, .ref qz, .ref qf])), (qh, .inr (1, [.int (nI (Pa)), .ref ae, .ref al, .ref au, .ref ao, .ref ar, .ref ak, .ref aw, .ref att, .ref ass])), (al, .inl (cI, 100, .inl fal)), (au, .inl (cI, 100, .inl fau)), (ao, .inl (cI, 100, .inl fao)), (qf, .inl (cI, 7, .inl ff_n)), (g0, .inr (9, [.ref m_ys, .ref m_yk, .ref m_yo, .ref m_yt, .int b0, .ref m_yfa, .ref m_yfe, .int m_mL, .int m_mS, .int m_mM, .ref m_yro, .ref m_yhe, .ref m_ygr, .int m_mF, .int m_mC, .int m_mY, .ref m_yta, .int (nI (z)), .int (nI (m_mf)), .int (nI (m_mt)), .int m_mv, .int m_mw, .ref m_ywa, .ref m_ybi, .ref m_ysi, .ref m_ynu, .ref m_ymo])), (m_ys, .inl (cI, 449, .inl m_ms)), (m_yt, .inl (cI, 7, .inl m_mq_n))] ++ tl) → va_S A s.heap H locs → lv_has ls 4 [(3, .int (nI i)), (2, .ref g0), (1, .ref h0), (0, .ref b)] → W p l e room_1 s m #[Value.ref b] below meth c H locs 82 4273 (lw_Z below #[Value.ref b] s) (F0 m 1483 ls [])) : W p l e room_1 s m #[Value.ref b] below meth c H locs 82 4273 (lw_Z below #[Value.ref b] s) (F0 m 975 ls []) := by
  have hx := hF.1
  have hb := hF.2.1
  have hml := hF.2.2.1
  have hown := hF.2.2.2.1
  have hu : ∀ w ∈ wsU, w.before _ s = true := fun w h => hF.2.2.2.2 w (List.mem_cons_of_mem _ h)
  refine lv_aload_n hx hb dL_law_975 rfl (lv_at hl 2 rfl) ?_
  refine lv_aload_n hx hb dL_law_976 rfl (lv_at hl 3 rfl) ?_
  refine lv_iload_n hx hb dL_law_977 rfl (lv_at hl 0 rfl) ?_
  refine lv_iconst (v := 1) hx hb dL_law_978 (by decide) ?_
  refine lv_iadd hx hb dL_law_979 ?_
  refine xl_i (y := nI (i + 1)) (nI_add i 1) ?_
  refine va_sld hx hb hX hbl hbA hS (x_si (k := 1) (by decide) hi hL) dL_law_980 ?_
  refine xl_i (y := xs (i + 1)) (congrArg xs (x_sc (k := 1) (by decide) hi hL)) ?_
  refine xc_ViT (wr := [(g0, .inr (9, [.ref m_ys, .ref m_yk, .ref m_yo, .ref m_yt, .int b0, .ref m_yfa, .ref m_yfe, .int m_mL, .int m_mS, .int m_mM, .ref m_yro, .ref m_yhe, .ref m_ygr, .int m_mF, .int m_mC, .int m_mY, .ref m_yta, .int (nI (z)), .int (nI (m_mf)), .int (nI (m_mt)), .int m_mv, .int m_mw, .ref m_ywa, .ref m_ybi, .ref m_ysi, .ref m_ynu, .ref m_ymo])), (m_ys, .inl (cI, 449, .inl m_ms)), (m_yt, .inl (cI, 7, .inl m_mq))]) hF (c_X8_known l D cI cJ cZ cS ta sa sv H.size h0 qh qk qd b0 qa qm qs qp ql qt qz qf Pa ae al au ao ar ak aw att ass fal fau fao ff (xs (i + 1)) hP0) kv_L_119 ⟨rfl, rfl, Nat.le_of_ble_eq_true rfl, Nat.le_of_ble_eq_true rfl⟩ ⟨Nat.le_of_ble_eq_true rfl, Nat.le_of_ble_eq_true rfl⟩ hK hN hZ hP hD hS hA [0, 1, 2, 3, 4, 5] [6, 7, 8] rfl rfl rfl rfl (by decide) 0 rfl rfl rfl rfl hl.1 rfl (Nat.le_of_ble_eq_true rfl) dL_law_981 (fun r_1 u_r_1 H locs hw_r_1 hP hD hS => ?_)
  obtain ⟨f2_2, rfl⟩ : ∃ z, z = u_r_1 := ⟨_, rfl⟩
  try dsimp only at hw_r_1
  have hP : va_P D vwCl ([(g0, .inr (9, [.ref m_ys, .ref m_yk, .ref m_yo, .ref m_yt, .int b0, .ref m_yfa, .ref m_yfe, .int m_mL, .int m_mS, .int m_mM, .ref m_yro, .ref m_yhe, .ref m_ygr, .int m_mF, .int m_mC, .int m_mY, .ref m_yta, .int (nI (z)), .int (nI (m_mf)), .int (nI (m_mt)), .int m_mv, .int m_mw, .ref m_ywa, .ref m_ybi, .ref m_ysi, .ref m_ynu, .ref m_ymo])), (m_ys, .inl (cI, 449, .inl m_ms)), (m_yt, .inl (cI, 7, .inl m_mq)), (h0, .inr (8, [.ref qh, .ref qk, .ref qd, .int b0, .ref qa, .ref qm, .ref qs, .ref qp, .ref ql, .ref qt, .ref qz, .ref qf])), (qh, .inr (1, [.int (nI (Pa)), .ref ae, .ref al, .ref au, .ref ao, .ref ar, .ref ak, .ref aw, .ref att, .ref ass])), (al, .inl (cI, 100, .inl fal)), (au, .inl (cI, 100, .inl fau)), (ao, .inl (cI, 100, .inl fao)), (qf, .inl (cI, 7, .inl f2_2))] ++ tl) H := hP
  have hD : va_D A ([(g0, .inr (9, [.ref m_ys, .ref m_yk, .ref m_yo, .ref m_yt, .int b0, .ref m_yfa, .ref m_yfe, .int m_mL, .int m_mS, .int m_mM, .ref m_yro, .ref m_yhe, .ref m_ygr, .int m_mF, .int m_mC, .int m_mY, .ref m_yta, .int (nI (z)), .int (nI (m_mf)), .int (nI (m_mt)), .int m_mv, .int m_mw, .ref m_ywa, .ref m_ybi, .ref m_ysi, .ref m_ynu, .ref m_ymo])), (m_ys, .inl (cI, 449, .inl m_ms)), (m_yt, .inl (cI, 7, .inl m_mq)), (h0, .inr (8, [.ref qh, .ref qk, .ref qd, .int b0, .ref qa, .ref qm, .ref qs, .ref qp, .ref ql, .ref qt, .ref qz, .ref qf])), (qh, .inr (1, [.int (nI (Pa)), .ref ae, .ref al, .ref au, .ref ao, .ref ar, .ref ak, .ref aw, .ref att, .ref ass])), (al, .inl (cI, 100, .inl fal)), (au, .inl (cI, 100, .inl fau)), (ao, .inl (cI, 100, .inl fao)), (qf, .inl (cI, 7, .inl f2_2))] ++ tl) := hD
  refine lv_pop hx hb dL_law_984 rfl ?_
  refine lv_aload_n hx hb dL_law_985 rfl (lv_at hl 1 rfl) ?_
  refine lv_aload_n hx hb dL_law_986 rfl (lv_at hl 3 rfl) ?_
  refine lv_iload_n hx hb dL_law_987 rfl (lv_at hl 0 rfl) ?_
  refine lv_iconst (v := 1) hx hb dL_law_988 (by decide) ?_
  refine lv_iadd hx hb dL_law_989 ?_
  refine xl_i (y := nI (i + 1)) (nI_add i 1) ?_
  refine va_sld hx hb hX hbl hbA hS (x_si (k := 1) (by decide) hi hL) dL_law_990 ?_
  refine xl_i (y := xs (i + 1)) (congrArg xs (x_sc (k := 1) (by decide) hi hL)) ?_
  refine xc_ViT (wr := [(h0, .inr (8, [.ref qh, .ref qk, .ref qd, .int b0, .ref qa, .ref qm, .ref qs, .ref qp, .ref ql, .ref qt, .ref qz, .ref qf])), (qh, .inr (1, [.int (nI (Pa)), .ref ae, .ref al, .ref au, .ref ao, .ref ar, .ref ak, .ref aw, .ref att, .ref ass])), (al, .inl (cI, 100, .inl fal)), (au, .inl (cI, 100, .inl fau)), (ao, .inl (cI, 100, .inl fao)), (qf, .inl (cI, 7, .inl f2_2))]) hF (c_X9_known l D cI cJ cZ cS ta sa sv H.size g0 m_ys m_yk m_yo m_yt b0 m_yfa m_yfe m_mL m_mS m_mM m_yro m_yhe m_ygr m_mF m_mC m_mY m_yta z m_mf m_mt m_mv m_mw m_ywa m_ybi m_ysi m_ynu m_ymo m_ms m_mq m_P m_Rn m_Wn (xs (i + 1)) m_hs0 m_hs1 m_hs2 m_hsS m_hsM m_hsp m_hsr m_hsw m_hsR) kv_L_122 ⟨rfl, rfl, Nat.le_of_ble_eq_true rfl, Nat.le_of_ble_eq_true rfl⟩ ⟨Nat.le_of_ble_eq_true rfl, Nat.le_of_ble_eq_true rfl⟩ hK hN hZ hP hD hS hA [0, 1, 2] [3, 4, 5, 6, 7, 8] rfl rfl rfl rfl (by decide) 0 rfl rfl rfl rfl hl.1 rfl (Nat.le_of_ble_eq_true rfl) dL_law_991 (fun r_3 u_r_3 H locs hw_r_3 hP hD hS => ?_)
  obtain ⟨mq2_4, rfl⟩ : ∃ z, z = u_r_3 := ⟨_, rfl⟩
  try dsimp only at hw_r_3
  have hP : va_P D vwCl ([(h0, .inr (8, [.ref qh, .ref qk, .ref qd, .int b0, .ref qa, .ref qm, .ref qs, .ref qp, .ref ql, .ref qt, .ref qz, .ref qf])), (qh, .inr (1, [.int (nI (Pa)), .ref ae, .ref al, .ref au, .ref ao, .ref ar, .ref ak, .ref aw, .ref att, .ref ass])), (al, .inl (cI, 100, .inl fal)), (au, .inl (cI, 100, .inl fau)), (ao, .inl (cI, 100, .inl fao)), (qf, .inl (cI, 7, .inl f2_2)), (g0, .inr (9, [.ref m_ys, .ref m_yk, .ref m_yo, .ref m_yt, .int b0, .ref m_yfa, .ref m_yfe, .int m_mL, .int m_mS, .int m_mM, .ref m_yro, .ref m_yhe, .ref m_ygr, .int m_mF, .int m_mC, .int m_mY, .ref m_yta, .int (nI (z)), .int (nI (m_mf)), .int (nI (m_mt)), .int m_mv, .int m_mw, .ref m_ywa, .ref m_ybi, .ref m_ysi, .ref m_ynu, .ref m_ymo])), (m_ys, .inl (cI, 449, .inl m_ms)), (m_yt, .inl (cI, 7, .inl mq2_4))] ++ tl) H := hP
  have hD : va_D A ([(h0, .inr (8, [.ref qh, .ref qk, .ref qd, .int b0, .ref qa, .ref qm, .ref qs, .ref qp, .ref ql, .ref qt, .ref qz, .ref qf])), (qh, .inr (1, [.int (nI (Pa)), .ref ae, .ref al, .ref au, .ref ao, .ref ar, .ref ak, .ref aw, .ref att, .ref ass])), (al, .inl (cI, 100, .inl fal)), (au, .inl (cI, 100, .inl fau)), (ao, .inl (cI, 100, .inl fao)), (qf, .inl (cI, 7, .inl f2_2)), (g0, .inr (9, [.ref m_ys, .ref m_yk, .ref m_yo, .ref m_yt, .int b0, .ref m_yfa, .ref m_yfe, .int m_mL, .int m_mS, .int m_mM, .ref m_yro, .ref m_yhe, .ref m_ygr, .int m_mF, .int m_mC, .int m_mY, .ref m_yta, .int (nI (z)), .int (nI (m_mf)), .int (nI (m_mt)), .int m_mv, .int m_mw, .ref m_ywa, .ref m_ybi, .ref m_ysi, .ref m_ynu, .ref m_ymo])), (m_ys, .inl (cI, 449, .inl m_ms)), (m_yt, .inl (cI, 7, .inl mq2_4))] ++ tl) := hD
  refine lv_pop hx hb dL_law_994 rfl ?_
  refine lv_goto (tgt := 1483) hx hb dL_law_995 (by decide) ?_
  exact kkx _ _ _ f2_2 mq2_4 (xt_P hP [0, 1, 2, 3, 4, 5, 6, 7, 8] rfl) (xt_D hD [0, 1, 2, 3, 4, 5, 6, 7, 8] (by decide +kernel) rfl)  hS hl
set_option maxHeartbeats 4000000 in
set_option maxRecDepth 100000 in
theorem law_26 {p : Program} {e : Env} {s : State} {m : MethodId} {below : List Frame} {meth : Method} {c : Code} (l : Launch) (D : va_G) (cI cJ cZ cS : ClassId) (ta : Nat) (sa sv : Nat → Nat) {b L : Nat} {xs : Nat → Int32} {A : Nat → Prop} (hL : L ≤ 3072) (hF : CallFix p m c cL_law 4 s #[Value.ref b] (Cond.initialized RX8 :: wsU) RL) (hr : meth.sig.returnType = ret) (hlk : meth.locks = false) (hK : va_K D vwCl (xT cI cJ cZ cS) s) (hN : XN sa s) (hX : va_X b L xs s s.heap) (hbl : b < s.heap.size) (hA : ∀ q : Nat, s.heap.size ≤ q → A q) (hbA : ¬ A b) (hAs : ∀ q, A q → s.heap.size ≤ q) (hZ : ST ta sa sv A s s.heap) (h0 g0 i : Nat) (hi : i + 6 ≤ L) (qh : Nat) (qk : Nat) (qd : Nat) (b0 : Int32) (qa : Nat) (qm : Nat) (qs : Nat) (qp : Nat) (ql : Nat) (qt : Nat) (qz : Nat) (qf : Nat) (Pa : Nat) (ae : Nat) (al : Nat) (au : Nat) (ao : Nat) (ar : Nat) (ak : Nat) (aw : Nat) (att : Nat) (ass : Nat) (fal : Nat → Int32) (fau : Nat → Int32) (fao : Nat → Int32) (ff : Nat → Int32) (m_ys : Nat) (m_yk : Nat) (m_yo : Nat) (m_yt : Nat) (m_yfa : Nat) (m_yfe : Nat) (m_mL : Int32) (m_mS : Int32) (m_mM : Int32) (m_yro : Nat) (m_yhe : Nat) (m_ygr : Nat) (m_mF : Int32) (m_mC : Int32) (m_mY : Int32) (m_yta : Nat) (z : Nat) (m_mf : Nat) (m_mt : Nat) (m_mv : Int32) (m_mw : Int32) (m_ywa : Nat) (m_ybi : Nat) (m_ysi : Nat) (m_ynu : Nat) (m_ymo : Nat) (m_ms : Nat → Int32) (m_mq : Nat → Int32) (m_P : Nat) (m_Rn : Nat) (m_Wn : Nat) {tl : va_W} {H : Heap} {locs : List Loc} {ls : Array Slot} (hP : va_P D vwCl ([(h0, .inr (8, [.ref qh, .ref qk, .ref qd, .int b0, .ref qa, .ref qm, .ref qs, .ref qp, .ref ql, .ref qt, .ref qz, .ref qf])), (qh, .inr (1, [.int (nI (Pa)), .ref ae, .ref al, .ref au, .ref ao, .ref ar, .ref ak, .ref aw, .ref att, .ref ass])), (al, .inl (cI, 100, .inl fal)), (au, .inl (cI, 100, .inl fau)), (ao, .inl (cI, 100, .inl fao)), (qf, .inl (cI, 7, .inl ff)), (g0, .inr (9, [.ref m_ys, .ref m_yk, .ref m_yo, .ref m_yt, .int b0, .ref m_yfa, .ref m_yfe, .int m_mL, .int m_mS, .int m_mM, .ref m_yro, .ref m_yhe, .ref m_ygr, .int m_mF, .int m_mC, .int m_mY, .ref m_yta, .int (nI (z)), .int (nI (m_mf)), .int (nI (m_mt)), .int m_mv, .int m_mw, .ref m_ywa, .ref m_ybi, .ref m_ysi, .ref m_ynu, .ref m_ymo])), (m_ys, .inl (cI, 449, .inl m_ms)), (m_yt, .inl (cI, 7, .inl m_mq))] ++ tl) H) (hD : va_D A ([(h0, .inr (8, [.ref qh, .ref qk, .ref qd, .int b0, .ref qa, .ref qm, .ref qs, .ref qp, .ref ql, .ref qt, .ref qz, .ref qf])), (qh, .inr (1, [.int (nI (Pa)), .ref ae, .ref al, .ref au, .ref ao, .ref ar, .ref ak, .ref aw, .ref att, .ref ass])), (al, .inl (cI, 100, .inl fal)), (au, .inl (cI, 100, .inl fau)), (ao, .inl (cI, 100, .inl fao)), (qf, .inl (cI, 7, .inl ff)), (g0, .inr (9, [.ref m_ys, .ref m_yk, .ref m_yo, .ref m_yt, .int b0, .ref m_yfa, .ref m_yfe, .int m_mL, .int m_mS, .int m_mM, .ref m_yro, .ref m_yhe, .ref m_ygr, .int m_mF, .int m_mC, .int m_mY, .ref m_yta, .int (nI (z)), .int (nI (m_mf)), .int (nI (m_mt)), .int m_mv, .int m_mw, .ref m_ywa, .ref m_ybi, .ref m_ysi, .ref m_ynu, .ref m_ymo])), (m_ys, .inl (cI, 449, .inl m_ms)), (m_yt, .inl (cI, 7, .inl m_mq))] ++ tl)) (hP0 : Pa ≤ 10) (hz : z ≤ 120) (m_hs0 : m_ms 0 = nI m_P) (m_hs1 : m_ms 1 = nI m_Rn) (m_hs2 : m_ms 2 = nI m_Wn) (m_hsS : SI m_ms) (m_hsM : MI m_ms) (m_hsp : m_P ≤ 10) (m_hsr : m_Rn ≤ 8) (m_hsw : m_Wn ≤ 8) (m_hsR : RI m_Rn m_ms) (hS : va_S A s.heap H locs) (hl : lv_has ls 4 [(3, .int (nI i)), (2, .ref g0), (1, .ref h0), (0, .ref b)]) (kkx : ∀ (H : Heap) (locs : List Loc) (ls : Array Slot) (ff_n : Nat → Int32) (m_mq_n : Nat → Int32), va_P D vwCl ([(h0, .inr (8, [.ref qh, .ref qk, .ref qd, .int b0, .ref qa, .ref qm, .ref qs, .ref qp, .ref ql, .ref qt, .ref qz, .ref qf])), (qh, .inr (1, [.int (nI (Pa)), .ref ae, .ref al, .ref au, .ref ao, .ref ar, .ref ak, .ref aw, .ref att, .ref ass])), (al, .inl (cI, 100, .inl fal)), (au, .inl (cI, 100, .inl fau)), (ao, .inl (cI, 100, .inl fao)), (qf, .inl (cI, 7, .inl ff_n)), (g0, .inr (9, [.ref m_ys, .ref m_yk, .ref m_yo, .ref m_yt, .int b0, .ref m_yfa, .ref m_yfe, .int m_mL, .int m_mS, .int m_mM, .ref m_yro, .ref m_yhe, .ref m_ygr, .int m_mF, .int m_mC, .int m_mY, .ref m_yta, .int (nI (z)), .int (nI (m_mf)), .int (nI (m_mt)), .int m_mv, .int m_mw, .ref m_ywa, .ref m_ybi, .ref m_ysi, .ref m_ynu, .ref m_ymo])), (m_ys, .inl (cI, 449, .inl m_ms)), (m_yt, .inl (cI, 7, .inl m_mq_n))] ++ tl) H → va_D A ([(h0, .inr (8, [.ref qh, .ref qk, .ref qd, .int b0, .ref qa, .ref qm, .ref qs, .ref qp, .ref ql, .ref qt, .ref qz, .ref qf])), (qh, .inr (1, [.int (nI (Pa)), .ref ae, .ref al, .ref au, .ref ao, .ref ar, .ref ak, .ref aw, .ref att, .ref ass])), (al, .inl (cI, 100, .inl fal)), (au, .inl (cI, 100, .inl fau)), (ao, .inl (cI, 100, .inl fao)), (qf, .inl (cI, 7, .inl ff_n)), (g0, .inr (9, [.ref m_ys, .ref m_yk, .ref m_yo, .ref m_yt, .int b0, .ref m_yfa, .ref m_yfe, .int m_mL, .int m_mS, .int m_mM, .ref m_yro, .ref m_yhe, .ref m_ygr, .int m_mF, .int m_mC, .int m_mY, .ref m_yta, .int (nI (z)), .int (nI (m_mf)), .int (nI (m_mt)), .int m_mv, .int m_mw, .ref m_ywa, .ref m_ybi, .ref m_ysi, .ref m_ynu, .ref m_ymo])), (m_ys, .inl (cI, 449, .inl m_ms)), (m_yt, .inl (cI, 7, .inl m_mq_n))] ++ tl) → va_S A s.heap H locs → lv_has ls 4 [(3, .int (nI i)), (2, .ref g0), (1, .ref h0), (0, .ref b)] → W p l e room_1 s m #[Value.ref b] below meth c H locs 82 4273 (lw_Z below #[Value.ref b] s) (F0 m 1483 ls [])) : W p l e room_1 s m #[Value.ref b] below meth c H locs 82 4273 (lw_Z below #[Value.ref b] s) (F0 m 998 ls []) := by
  have hx := hF.1
  have hb := hF.2.1
  have hml := hF.2.2.1
  have hown := hF.2.2.2.1
  have hu : ∀ w ∈ wsU, w.before _ s = true := fun w h => hF.2.2.2.2 w (List.mem_cons_of_mem _ h)
  refine lv_aload_n hx hb dL_law_998 rfl (lv_at hl 2 rfl) ?_
  refine xc_ViT (wr := [(g0, .inr (9, [.ref m_ys, .ref m_yk, .ref m_yo, .ref m_yt, .int b0, .ref m_yfa, .ref m_yfe, .int m_mL, .int m_mS, .int m_mM, .ref m_yro, .ref m_yhe, .ref m_ygr, .int m_mF, .int m_mC, .int m_mY, .ref m_yta, .int (nI (z)), .int (nI (m_mf)), .int (nI (m_mt)), .int m_mv, .int m_mw, .ref m_ywa, .ref m_ybi, .ref m_ysi, .ref m_ynu, .ref m_ymo])), (m_ys, .inl (cI, 449, .inl m_ms)), (m_yt, .inl (cI, 7, .inl m_mq))]) hF (c_X8_ask l D cI cJ cZ cS ta sa sv H.size h0 qh qk qd b0 qa qm qs qp ql qt qz qf Pa ae al au ao ar ak aw att ass fal fau fao ff hP0) kv_L_123 ⟨rfl, rfl, Nat.le_of_ble_eq_true rfl, Nat.le_of_ble_eq_true rfl⟩ ⟨Nat.le_of_ble_eq_true rfl, Nat.le_of_ble_eq_true rfl⟩ hK hN hZ hP hD hS hA [0, 1, 2, 3, 4, 5] [6, 7, 8] rfl rfl rfl rfl (by decide) 0 rfl rfl rfl rfl hl.1 rfl (Nat.le_of_ble_eq_true rfl) dL_law_999 (fun r_1 u_r_1 H locs hw_r_1 hP hD hS => ?_)
  obtain ⟨f2_2, rfl⟩ : ∃ z, z = u_r_1 := ⟨_, rfl⟩
  try dsimp only at hw_r_1
  have hP : va_P D vwCl ([(g0, .inr (9, [.ref m_ys, .ref m_yk, .ref m_yo, .ref m_yt, .int b0, .ref m_yfa, .ref m_yfe, .int m_mL, .int m_mS, .int m_mM, .ref m_yro, .ref m_yhe, .ref m_ygr, .int m_mF, .int m_mC, .int m_mY, .ref m_yta, .int (nI (z)), .int (nI (m_mf)), .int (nI (m_mt)), .int m_mv, .int m_mw, .ref m_ywa, .ref m_ybi, .ref m_ysi, .ref m_ynu, .ref m_ymo])), (m_ys, .inl (cI, 449, .inl m_ms)), (m_yt, .inl (cI, 7, .inl m_mq)), (h0, .inr (8, [.ref qh, .ref qk, .ref qd, .int b0, .ref qa, .ref qm, .ref qs, .ref qp, .ref ql, .ref qt, .ref qz, .ref qf])), (qh, .inr (1, [.int (nI (Pa)), .ref ae, .ref al, .ref au, .ref ao, .ref ar, .ref ak, .ref aw, .ref att, .ref ass])), (al, .inl (cI, 100, .inl fal)), (au, .inl (cI, 100, .inl fau)), (ao, .inl (cI, 100, .inl fao)), (qf, .inl (cI, 7, .inl f2_2))] ++ tl) H := hP
  have hD : va_D A ([(g0, .inr (9, [.ref m_ys, .ref m_yk, .ref m_yo, .ref m_yt, .int b0, .ref m_yfa, .ref m_yfe, .int m_mL, .int m_mS, .int m_mM, .ref m_yro, .ref m_yhe, .ref m_ygr, .int m_mF, .int m_mC, .int m_mY, .ref m_yta, .int (nI (z)), .int (nI (m_mf)), .int (nI (m_mt)), .int m_mv, .int m_mw, .ref m_ywa, .ref m_ybi, .ref m_ysi, .ref m_ynu, .ref m_ymo])), (m_ys, .inl (cI, 449, .inl m_ms)), (m_yt, .inl (cI, 7, .inl m_mq)), (h0, .inr (8, [.ref qh, .ref qk, .ref qd, .int b0, .ref qa, .ref qm, .ref qs, .ref qp, .ref ql, .ref qt, .ref qz, .ref qf])), (qh, .inr (1, [.int (nI (Pa)), .ref ae, .ref al, .ref au, .ref ao, .ref ar, .ref ak, .ref aw, .ref att, .ref ass])), (al, .inl (cI, 100, .inl fal)), (au, .inl (cI, 100, .inl fau)), (ao, .inl (cI, 100, .inl fao)), (qf, .inl (cI, 7, .inl f2_2))] ++ tl) := hD
  refine lv_pop hx hb dL_law_1002 rfl ?_
  refine lv_aload_n hx hb dL_law_1003 rfl (lv_at hl 1 rfl) ?_
  refine xc_ViT (wr := [(h0, .inr (8, [.ref qh, .ref qk, .ref qd, .int b0, .ref qa, .ref qm, .ref qs, .ref qp, .ref ql, .ref qt, .ref qz, .ref qf])), (qh, .inr (1, [.int (nI (Pa)), .ref ae, .ref al, .ref au, .ref ao, .ref ar, .ref ak, .ref aw, .ref att, .ref ass])), (al, .inl (cI, 100, .inl fal)), (au, .inl (cI, 100, .inl fau)), (ao, .inl (cI, 100, .inl fao)), (qf, .inl (cI, 7, .inl f2_2))]) hF (c_X9_ask l D cI cJ cZ cS ta sa sv H.size g0 m_ys m_yk m_yo m_yt b0 m_yfa m_yfe m_mL m_mS m_mM m_yro m_yhe m_ygr m_mF m_mC m_mY m_yta z m_mf m_mt m_mv m_mw m_ywa m_ybi m_ysi m_ynu m_ymo m_ms m_mq m_P m_Rn m_Wn m_hs0 m_hs1 m_hs2 m_hsS m_hsM m_hsp m_hsr m_hsw m_hsR) kv_L_126 ⟨rfl, rfl, Nat.le_of_ble_eq_true rfl, Nat.le_of_ble_eq_true rfl⟩ ⟨Nat.le_of_ble_eq_true rfl, Nat.le_of_ble_eq_true rfl⟩ hK hN hZ hP hD hS hA [0, 1, 2] [3, 4, 5, 6, 7, 8] rfl rfl rfl rfl (by decide) 0 rfl rfl rfl rfl hl.1 rfl (Nat.le_of_ble_eq_true rfl) dL_law_1004 (fun r_3 u_r_3 H locs hw_r_3 hP hD hS => ?_)
  obtain ⟨mq2_4, rfl⟩ : ∃ z, z = u_r_3 := ⟨_, rfl⟩
  try dsimp only at hw_r_3
  have hP : va_P D vwCl ([(h0, .inr (8, [.ref qh, .ref qk, .ref qd, .int b0, .ref qa, .ref qm, .ref qs, .ref qp, .ref ql, .ref qt, .ref qz, .ref qf])), (qh, .inr (1, [.int (nI (Pa)), .ref ae, .ref al, .ref au, .ref ao, .ref ar, .ref ak, .ref aw, .ref att, .ref ass])), (al, .inl (cI, 100, .inl fal)), (au, .inl (cI, 100, .inl fau)), (ao, .inl (cI, 100, .inl fao)), (qf, .inl (cI, 7, .inl f2_2)), (g0, .inr (9, [.ref m_ys, .ref m_yk, .ref m_yo, .ref m_yt, .int b0, .ref m_yfa, .ref m_yfe, .int m_mL, .int m_mS, .int m_mM, .ref m_yro, .ref m_yhe, .ref m_ygr, .int m_mF, .int m_mC, .int m_mY, .ref m_yta, .int (nI (z)), .int (nI (m_mf)), .int (nI (m_mt)), .int m_mv, .int m_mw, .ref m_ywa, .ref m_ybi, .ref m_ysi, .ref m_ynu, .ref m_ymo])), (m_ys, .inl (cI, 449, .inl m_ms)), (m_yt, .inl (cI, 7, .inl mq2_4))] ++ tl) H := hP
  have hD : va_D A ([(h0, .inr (8, [.ref qh, .ref qk, .ref qd, .int b0, .ref qa, .ref qm, .ref qs, .ref qp, .ref ql, .ref qt, .ref qz, .ref qf])), (qh, .inr (1, [.int (nI (Pa)), .ref ae, .ref al, .ref au, .ref ao, .ref ar, .ref ak, .ref aw, .ref att, .ref ass])), (al, .inl (cI, 100, .inl fal)), (au, .inl (cI, 100, .inl fau)), (ao, .inl (cI, 100, .inl fao)), (qf, .inl (cI, 7, .inl f2_2)), (g0, .inr (9, [.ref m_ys, .ref m_yk, .ref m_yo, .ref m_yt, .int b0, .ref m_yfa, .ref m_yfe, .int m_mL, .int m_mS, .int m_mM, .ref m_yro, .ref m_yhe, .ref m_ygr, .int m_mF, .int m_mC, .int m_mY, .ref m_yta, .int (nI (z)), .int (nI (m_mf)), .int (nI (m_mt)), .int m_mv, .int m_mw, .ref m_ywa, .ref m_ybi, .ref m_ysi, .ref m_ynu, .ref m_ymo])), (m_ys, .inl (cI, 449, .inl m_ms)), (m_yt, .inl (cI, 7, .inl mq2_4))] ++ tl) := hD
  refine lv_pop hx hb dL_law_1007 rfl ?_
  refine lv_goto (tgt := 1483) hx hb dL_law_1008 (by decide) ?_
  exact kkx _ _ _ f2_2 mq2_4 (xt_P hP [0, 1, 2, 3, 4, 5, 6, 7, 8] rfl) (xt_D hD [0, 1, 2, 3, 4, 5, 6, 7, 8] (by decide +kernel) rfl)  hS hl
set_option maxHeartbeats 4000000 in
set_option maxRecDepth 100000 in
theorem law_27 {p : Program} {e : Env} {s : State} {m : MethodId} {below : List Frame} {meth : Method} {c : Code} (l : Launch) (D : va_G) (cI cJ cZ cS : ClassId) (ta : Nat) (sa sv : Nat → Nat) {b L : Nat} {xs : Nat → Int32} {A : Nat → Prop} (hL : L ≤ 3072) (hF : CallFix p m c cL_law 4 s #[Value.ref b] (Cond.initialized RX8 :: wsU) RL) (hr : meth.sig.returnType = ret) (hlk : meth.locks = false) (hK : va_K D vwCl (xT cI cJ cZ cS) s) (hN : XN sa s) (hX : va_X b L xs s s.heap) (hbl : b < s.heap.size) (hA : ∀ q : Nat, s.heap.size ≤ q → A q) (hbA : ¬ A b) (hAs : ∀ q, A q → s.heap.size ≤ q) (hZ : ST ta sa sv A s s.heap) (h0 g0 i : Nat) (hi : i + 6 ≤ L) (qh : Nat) (qk : Nat) (qd : Nat) (b0 : Int32) (qa : Nat) (qm : Nat) (qs : Nat) (qp : Nat) (ql : Nat) (qt : Nat) (qz : Nat) (qf : Nat) (Pa : Nat) (ae : Nat) (al : Nat) (au : Nat) (ao : Nat) (ar : Nat) (ak : Nat) (aw : Nat) (att : Nat) (ass : Nat) (fae : Nat → Int32) (fal : Nat → Int32) (fao : Nat → Int32) (Qa : Nat) (an : Nat) (La : Nat → Int32) (Qm : Nat) (mn : Nat) (Lm : Nat → Int32) (ff : Nat → Int32) (m_ys : Nat) (m_yk : Nat) (m_yo : Nat) (m_yt : Nat) (m_yfa : Nat) (m_yfe : Nat) (m_mL : Int32) (m_mS : Int32) (m_mM : Int32) (m_yro : Nat) (m_yhe : Nat) (m_ygr : Nat) (m_mF : Int32) (m_mC : Int32) (m_mY : Int32) (m_yta : Nat) (z : Nat) (m_mf : Nat) (m_mt : Nat) (m_mv : Int32) (m_mw : Int32) (m_ywa : Nat) (m_ybi : Nat) (m_ysi : Nat) (m_ynu : Nat) (m_ymo : Nat) (m_ms : Nat → Int32) (m_mq : Nat → Int32) (m_fa : Nat → Int32) (m_fe : Nat → Int32) (m_P : Nat) (m_Rn : Nat) (m_Wn : Nat) {tl : va_W} {H : Heap} {locs : List Loc} {ls : Array Slot} (hP : va_P D vwCl ([(h0, .inr (8, [.ref qh, .ref qk, .ref qd, .int b0, .ref qa, .ref qm, .ref qs, .ref qp, .ref ql, .ref qt, .ref qz, .ref qf])), (qh, .inr (1, [.int (nI (Pa)), .ref ae, .ref al, .ref au, .ref ao, .ref ar, .ref ak, .ref aw, .ref att, .ref ass])), (ae, .inl (cI, 10, .inl fae)), (al, .inl (cI, 100, .inl fal)), (ao, .inl (cI, 100, .inl fao)), (qa, .inr (0, [.int (nI (Qa)), .ref an])), (an, .inl (cI, 100, .inl La)), (qm, .inr (0, [.int (nI (Qm)), .ref mn])), (mn, .inl (cI, 100, .inl Lm)), (qf, .inl (cI, 7, .inl ff)), (g0, .inr (9, [.ref m_ys, .ref m_yk, .ref m_yo, .ref m_yt, .int b0, .ref m_yfa, .ref m_yfe, .int m_mL, .int m_mS, .int m_mM, .ref m_yro, .ref m_yhe, .ref m_ygr, .int m_mF, .int m_mC, .int m_mY, .ref m_yta, .int (nI (z)), .int (nI (m_mf)), .int (nI (m_mt)), .int m_mv, .int m_mw, .ref m_ywa, .ref m_ybi, .ref m_ysi, .ref m_ynu, .ref m_ymo])), (m_ys, .inl (cI, 449, .inl m_ms)), (m_yt, .inl (cI, 7, .inl m_mq)), (m_yfa, .inl (cI, 100, .inl m_fa)), (m_yfe, .inl (cI, 100, .inl m_fe))] ++ tl) H) (hD : va_D A ([(h0, .inr (8, [.ref qh, .ref qk, .ref qd, .int b0, .ref qa, .ref qm, .ref qs, .ref qp, .ref ql, .ref qt, .ref qz, .ref qf])), (qh, .inr (1, [.int (nI (Pa)), .ref ae, .ref al, .ref au, .ref ao, .ref ar, .ref ak, .ref aw, .ref att, .ref ass])), (ae, .inl (cI, 10, .inl fae)), (al, .inl (cI, 100, .inl fal)), (ao, .inl (cI, 100, .inl fao)), (qa, .inr (0, [.int (nI (Qa)), .ref an])), (an, .inl (cI, 100, .inl La)), (qm, .inr (0, [.int (nI (Qm)), .ref mn])), (mn, .inl (cI, 100, .inl Lm)), (qf, .inl (cI, 7, .inl ff)), (g0, .inr (9, [.ref m_ys, .ref m_yk, .ref m_yo, .ref m_yt, .int b0, .ref m_yfa, .ref m_yfe, .int m_mL, .int m_mS, .int m_mM, .ref m_yro, .ref m_yhe, .ref m_ygr, .int m_mF, .int m_mC, .int m_mY, .ref m_yta, .int (nI (z)), .int (nI (m_mf)), .int (nI (m_mt)), .int m_mv, .int m_mw, .ref m_ywa, .ref m_ybi, .ref m_ysi, .ref m_ynu, .ref m_ymo])), (m_ys, .inl (cI, 449, .inl m_ms)), (m_yt, .inl (cI, 7, .inl m_mq)), (m_yfa, .inl (cI, 100, .inl m_fa)), (m_yfe, .inl (cI, 100, .inl m_fe))] ++ tl)) (hP0 : Pa ≤ 10) (hQa : Qa ≤ 10) (hQm : Qm ≤ 10) (hz : z ≤ 120) (m_hs0 : m_ms 0 = nI m_P) (m_hs1 : m_ms 1 = nI m_Rn) (m_hs2 : m_ms 2 = nI m_Wn) (m_hsS : SI m_ms) (m_hsM : MI m_ms) (m_hsp : m_P ≤ 10) (m_hsr : m_Rn ≤ 8) (m_hsw : m_Wn ≤ 8) (m_hsR : RI m_Rn m_ms) (hS : va_S A s.heap H locs) (hl : lv_has ls 4 [(3, .int (nI i)), (2, .ref g0), (1, .ref h0), (0, .ref b)]) (kkx : ∀ (H : Heap) (locs : List Loc) (ls : Array Slot) (Qa_n : Nat) (La_n : Nat → Int32) (Qm_n : Nat) (Lm_n : Nat → Int32) (ff_n : Nat → Int32) (m_mL_n : Int32) (m_mS_n : Int32) (m_ms_n : Nat → Int32) (m_mq_n : Nat → Int32) (m_fa_n : Nat → Int32) (m_fe_n : Nat → Int32), va_P D vwCl ([(h0, .inr (8, [.ref qh, .ref qk, .ref qd, .int b0, .ref qa, .ref qm, .ref qs, .ref qp, .ref ql, .ref qt, .ref qz, .ref qf])), (qh, .inr (1, [.int (nI (Pa)), .ref ae, .ref al, .ref au, .ref ao, .ref ar, .ref ak, .ref aw, .ref att, .ref ass])), (ae, .inl (cI, 10, .inl fae)), (al, .inl (cI, 100, .inl fal)), (ao, .inl (cI, 100, .inl fao)), (qa, .inr (0, [.int (nI (Qa_n)), .ref an])), (an, .inl (cI, 100, .inl La_n)), (qm, .inr (0, [.int (nI (Qm_n)), .ref mn])), (mn, .inl (cI, 100, .inl Lm_n)), (qf, .inl (cI, 7, .inl ff_n)), (g0, .inr (9, [.ref m_ys, .ref m_yk, .ref m_yo, .ref m_yt, .int b0, .ref m_yfa, .ref m_yfe, .int m_mL_n, .int m_mS_n, .int m_mM, .ref m_yro, .ref m_yhe, .ref m_ygr, .int m_mF, .int m_mC, .int m_mY, .ref m_yta, .int (nI (z)), .int (nI (m_mf)), .int (nI (m_mt)), .int m_mv, .int m_mw, .ref m_ywa, .ref m_ybi, .ref m_ysi, .ref m_ynu, .ref m_ymo])), (m_ys, .inl (cI, 449, .inl m_ms_n)), (m_yt, .inl (cI, 7, .inl m_mq_n)), (m_yfa, .inl (cI, 100, .inl m_fa_n)), (m_yfe, .inl (cI, 100, .inl m_fe_n))] ++ tl) H → va_D A ([(h0, .inr (8, [.ref qh, .ref qk, .ref qd, .int b0, .ref qa, .ref qm, .ref qs, .ref qp, .ref ql, .ref qt, .ref qz, .ref qf])), (qh, .inr (1, [.int (nI (Pa)), .ref ae, .ref al, .ref au, .ref ao, .ref ar, .ref ak, .ref aw, .ref att, .ref ass])), (ae, .inl (cI, 10, .inl fae)), (al, .inl (cI, 100, .inl fal)), (ao, .inl (cI, 100, .inl fao)), (qa, .inr (0, [.int (nI (Qa_n)), .ref an])), (an, .inl (cI, 100, .inl La_n)), (qm, .inr (0, [.int (nI (Qm_n)), .ref mn])), (mn, .inl (cI, 100, .inl Lm_n)), (qf, .inl (cI, 7, .inl ff_n)), (g0, .inr (9, [.ref m_ys, .ref m_yk, .ref m_yo, .ref m_yt, .int b0, .ref m_yfa, .ref m_yfe, .int m_mL_n, .int m_mS_n, .int m_mM, .ref m_yro, .ref m_yhe, .ref m_ygr, .int m_mF, .int m_mC, .int m_mY, .ref m_yta, .int (nI (z)), .int (nI (m_mf)), .int (nI (m_mt)), .int m_mv, .int m_mw, .ref m_ywa, .ref m_ybi, .ref m_ysi, .ref m_ynu, .ref m_ymo])), (m_ys, .inl (cI, 449, .inl m_ms_n)), (m_yt, .inl (cI, 7, .inl m_mq_n)), (m_yfa, .inl (cI, 100, .inl m_fa_n)), (m_yfe, .inl (cI, 100, .inl m_fe_n))] ++ tl) → (Qa_n ≤ 10) → (Qm_n ≤ 10) → (m_ms_n 0 = nI m_P) → (m_ms_n 1 = nI m_Rn) → (m_ms_n 2 = nI m_Wn) → (SI m_ms_n) → (MI m_ms_n) → (RI m_Rn m_ms_n) → va_S A s.heap H locs → lv_has ls 4 [(3, .int (nI i)), (2, .ref g0), (1, .ref h0), (0, .ref b)] → W p l e room_1 s m #[Value.ref b] below meth c H locs 82 4273 (lw_Z below #[Value.ref b] s) (F0 m 1483 ls [])) : W p l e room_1 s m #[Value.ref b] below meth c H locs 82 4273 (lw_Z below #[Value.ref b] s) (F0 m 1011 ls []) := by
  have hx := hF.1
  have hb := hF.2.1
  have hml := hF.2.2.1
  have hown := hF.2.2.2.1
  have hu : ∀ w ∈ wsU, w.before _ s = true := fun w h => hF.2.2.2.2 w (List.mem_cons_of_mem _ h)
  refine lv_aload_n hx hb dL_law_1011 rfl (lv_at hl 2 rfl) ?_
  refine lv_aload_n hx hb dL_law_1012 rfl (lv_at hl 3 rfl) ?_
  refine lv_iload_n hx hb dL_law_1013 rfl (lv_at hl 0 rfl) ?_
  refine lv_iconst (v := 1) hx hb dL_law_1014 (by decide) ?_
  refine lv_iadd hx hb dL_law_1015 ?_
  refine xl_i (y := nI (i + 1)) (nI_add i 1) ?_
  refine va_sld hx hb hX hbl hbA hS (x_si (k := 1) (by decide) hi hL) dL_law_1016 ?_
  refine xl_i (y := xs (i + 1)) (congrArg xs (x_sc (k := 1) (by decide) hi hL)) ?_
  refine lv_aload_n hx hb dL_law_1017 rfl (lv_at hl 3 rfl) ?_
  refine lv_iload_n hx hb dL_law_1018 rfl (lv_at hl 0 rfl) ?_
  refine lv_iconst (v := 2) hx hb dL_law_1019 (by decide) ?_
  refine lv_iadd hx hb dL_law_1020 ?_
  refine xl_i (y := nI (i + 2)) (nI_add i 2) ?_
  refine va_sld hx hb hX hbl hbA hS (x_si (k := 2) (by decide) hi hL) dL_law_1021 ?_
  refine xl_i (y := xs (i + 2)) (congrArg xs (x_sc (k := 2) (by decide) hi hL)) ?_
  refine xc_ViT (wr := [(g0, .inr (9, [.ref m_ys, .ref m_yk, .ref m_yo, .ref m_yt, .int b0, .ref m_yfa, .ref m_yfe, .int m_mL, .int m_mS, .int m_mM, .ref m_yro, .ref m_yhe, .ref m_ygr, .int m_mF, .int m_mC, .int m_mY, .ref m_yta, .int (nI (z)), .int (nI (m_mf)), .int (nI (m_mt)), .int m_mv, .int m_mw, .ref m_ywa, .ref m_ybi, .ref m_ysi, .ref m_ynu, .ref m_ymo])), (m_ys, .inl (cI, 449, .inl m_ms)), (m_yt, .inl (cI, 7, .inl m_mq)), (m_yfa, .inl (cI, 100, .inl m_fa)), (m_yfe, .inl (cI, 100, .inl m_fe))]) hF (c_X8_saves l D cI cJ cZ cS ta sa sv H.size h0 qh qk qd b0 qa qm qs qp ql qt qz qf Pa ae al au ao ar ak aw att ass fae fal fao Qa an La Qm mn Lm ff (xs (i + 1)) (xs (i + 2)) hP0 hQa hQm) kv_L_127 ⟨rfl, rfl, Nat.le_of_ble_eq_true rfl, Nat.le_of_ble_eq_true rfl⟩ ⟨Nat.le_of_ble_eq_true rfl, Nat.le_of_ble_eq_true rfl⟩ hK hN hZ hP hD hS hA [0, 1, 2, 3, 4, 5, 6, 7, 8, 9] [10, 11, 12, 13, 14] rfl rfl rfl rfl (by decide) 0 rfl rfl rfl rfl hl.1 rfl (Nat.le_of_ble_eq_true rfl) dL_law_1022 (fun r_1 u_r_1 H locs hw_r_1 hP hD hS => ?_)
  obtain ⟨Q2_2, L2_3, Qm2_4, Lm2_5, f2_6⟩ := u_r_1
  try dsimp only at hw_r_1
  obtain ⟨hw_r_1, i_7, i_8⟩ := hw_r_1
  have hP : va_P D vwCl ([(g0, .inr (9, [.ref m_ys, .ref m_yk, .ref m_yo, .ref m_yt, .int b0, .ref m_yfa, .ref m_yfe, .int m_mL, .int m_mS, .int m_mM, .ref m_yro, .ref m_yhe, .ref m_ygr, .int m_mF, .int m_mC, .int m_mY, .ref m_yta, .int (nI (z)), .int (nI (m_mf)), .int (nI (m_mt)), .int m_mv, .int m_mw, .ref m_ywa, .ref m_ybi, .ref m_ysi, .ref m_ynu, .ref m_ymo])), (m_ys, .inl (cI, 449, .inl m_ms)), (m_yt, .inl (cI, 7, .inl m_mq)), (m_yfa, .inl (cI, 100, .inl m_fa)), (m_yfe, .inl (cI, 100, .inl m_fe)), (h0, .inr (8, [.ref qh, .ref qk, .ref qd, .int b0, .ref qa, .ref qm, .ref qs, .ref qp, .ref ql, .ref qt, .ref qz, .ref qf])), (qh, .inr (1, [.int (nI (Pa)), .ref ae, .ref al, .ref au, .ref ao, .ref ar, .ref ak, .ref aw, .ref att, .ref ass])), (ae, .inl (cI, 10, .inl fae)), (al, .inl (cI, 100, .inl fal)), (ao, .inl (cI, 100, .inl fao)), (qa, .inr (0, [.int (nI (Q2_2)), .ref an])), (an, .inl (cI, 100, .inl L2_3)), (qm, .inr (0, [.int (nI (Qm2_4)), .ref mn])), (mn, .inl (cI, 100, .inl Lm2_5)), (qf, .inl (cI, 7, .inl f2_6))] ++ tl) H := hP
  have hD : va_D A ([(g0, .inr (9, [.ref m_ys, .ref m_yk, .ref m_yo, .ref m_yt, .int b0, .ref m_yfa, .ref m_yfe, .int m_mL, .int m_mS, .int m_mM, .ref m_yro, .ref m_yhe, .ref m_ygr, .int m_mF, .int m_mC, .int m_mY, .ref m_yta, .int (nI (z)), .int (nI (m_mf)), .int (nI (m_mt)), .int m_mv, .int m_mw, .ref m_ywa, .ref m_ybi, .ref m_ysi, .ref m_ynu, .ref m_ymo])), (m_ys, .inl (cI, 449, .inl m_ms)), (m_yt, .inl (cI, 7, .inl m_mq)), (m_yfa, .inl (cI, 100, .inl m_fa)), (m_yfe, .inl (cI, 100, .inl m_fe)), (h0, .inr (8, [.ref qh, .ref qk, .ref qd, .int b0, .ref qa, .ref qm, .ref qs, .ref qp, .ref ql, .ref qt, .ref qz, .ref qf])), (qh, .inr (1, [.int (nI (Pa)), .ref ae, .ref al, .ref au, .ref ao, .ref ar, .ref ak, .ref aw, .ref att, .ref ass])), (ae, .inl (cI, 10, .inl fae)), (al, .inl (cI, 100, .inl fal)), (ao, .inl (cI, 100, .inl fao)), (qa, .inr (0, [.int (nI (Q2_2)), .ref an])), (an, .inl (cI, 100, .inl L2_3)), (qm, .inr (0, [.int (nI (Qm2_4)), .ref mn])), (mn, .inl (cI, 100, .inl Lm2_5)), (qf, .inl (cI, 7, .inl f2_6))] ++ tl) := hD
  refine lv_pop hx hb dL_law_1025 rfl ?_
  refine lv_aload_n hx hb dL_law_1026 rfl (lv_at hl 1 rfl) ?_
  refine lv_aload_n hx hb dL_law_1027 rfl (lv_at hl 3 rfl) ?_
  refine lv_iload_n hx hb dL_law_1028 rfl (lv_at hl 0 rfl) ?_
  refine lv_iconst (v := 1) hx hb dL_law_1029 (by decide) ?_
  refine lv_iadd hx hb dL_law_1030 ?_
  refine xl_i (y := nI (i + 1)) (nI_add i 1) ?_
  refine va_sld hx hb hX hbl hbA hS (x_si (k := 1) (by decide) hi hL) dL_law_1031 ?_
  refine xl_i (y := xs (i + 1)) (congrArg xs (x_sc (k := 1) (by decide) hi hL)) ?_
  refine lv_aload_n hx hb dL_law_1032 rfl (lv_at hl 3 rfl) ?_
  refine lv_iload_n hx hb dL_law_1033 rfl (lv_at hl 0 rfl) ?_
  refine lv_iconst (v := 2) hx hb dL_law_1034 (by decide) ?_
  refine lv_iadd hx hb dL_law_1035 ?_
  refine xl_i (y := nI (i + 2)) (nI_add i 2) ?_
  refine va_sld hx hb hX hbl hbA hS (x_si (k := 2) (by decide) hi hL) dL_law_1036 ?_
  refine xl_i (y := xs (i + 2)) (congrArg xs (x_sc (k := 2) (by decide) hi hL)) ?_
  refine xc_ViT (wr := [(h0, .inr (8, [.ref qh, .ref qk, .ref qd, .int b0, .ref qa, .ref qm, .ref qs, .ref qp, .ref ql, .ref qt, .ref qz, .ref qf])), (qh, .inr (1, [.int (nI (Pa)), .ref ae, .ref al, .ref au, .ref ao, .ref ar, .ref ak, .ref aw, .ref att, .ref ass])), (ae, .inl (cI, 10, .inl fae)), (al, .inl (cI, 100, .inl fal)), (ao, .inl (cI, 100, .inl fao)), (qa, .inr (0, [.int (nI (Q2_2)), .ref an])), (an, .inl (cI, 100, .inl L2_3)), (qm, .inr (0, [.int (nI (Qm2_4)), .ref mn])), (mn, .inl (cI, 100, .inl Lm2_5)), (qf, .inl (cI, 7, .inl f2_6))]) hF (c_X9_saves l D cI cJ cZ cS ta sa sv H.size g0 m_ys m_yk m_yo m_yt b0 m_yfa m_yfe m_mL m_mS m_mM m_yro m_yhe m_ygr m_mF m_mC m_mY m_yta z m_mf m_mt m_mv m_mw m_ywa m_ybi m_ysi m_ynu m_ymo m_ms m_fa m_fe m_mq m_P m_Rn m_Wn (xs (i + 1)) (xs (i + 2)) m_hs0 m_hs1 m_hs2 m_hsS m_hsM m_hsp m_hsr m_hsw m_hsR) kv_L_130 ⟨rfl, rfl, Nat.le_of_ble_eq_true rfl, Nat.le_of_ble_eq_true rfl⟩ ⟨Nat.le_of_ble_eq_true rfl, Nat.le_of_ble_eq_true rfl⟩ hK hN hZ hP hD hS hA [0, 1, 3, 4, 2] [5, 6, 7, 8, 9, 10, 11, 12, 13, 14] rfl rfl rfl rfl (by decide) 0 rfl rfl rfl rfl hl.1 rfl (Nat.le_of_ble_eq_true rfl) dL_law_1037 (fun r_9 u_r_9 H locs hw_r_9 hP hD hS => ?_)
  obtain ⟨mL2_10, mS2_11, ms2_12, fa2_13, fe2_14, mq2_15⟩ := u_r_9
  try dsimp only at hw_r_9
  obtain ⟨hw_r_9, i_16, i_17, i_18, i_19, i_20, i_21, i_22, i_23, i_24⟩ := hw_r_9
  have hP : va_P D vwCl ([(h0, .inr (8, [.ref qh, .ref qk, .ref qd, .int b0, .ref qa, .ref qm, .ref qs, .ref qp, .ref ql, .ref qt, .ref qz, .ref qf])), (qh, .inr (1, [.int (nI (Pa)), .ref ae, .ref al, .ref au, .ref ao, .ref ar, .ref ak, .ref aw, .ref att, .ref ass])), (ae, .inl (cI, 10, .inl fae)), (al, .inl (cI, 100, .inl fal)), (ao, .inl (cI, 100, .inl fao)), (qa, .inr (0, [.int (nI (Q2_2)), .ref an])), (an, .inl (cI, 100, .inl L2_3)), (qm, .inr (0, [.int (nI (Qm2_4)), .ref mn])), (mn, .inl (cI, 100, .inl Lm2_5)), (qf, .inl (cI, 7, .inl f2_6)), (g0, .inr (9, [.ref m_ys, .ref m_yk, .ref m_yo, .ref m_yt, .int b0, .ref m_yfa, .ref m_yfe, .int mL2_10, .int mS2_11, .int m_mM, .ref m_yro, .ref m_yhe, .ref m_ygr, .int m_mF, .int m_mC, .int m_mY, .ref m_yta, .int (nI (z)), .int (nI (m_mf)), .int (nI (m_mt)), .int m_mv, .int m_mw, .ref m_ywa, .ref m_ybi, .ref m_ysi, .ref m_ynu, .ref m_ymo])), (m_ys, .inl (cI, 449, .inl ms2_12)), (m_yfa, .inl (cI, 100, .inl fa2_13)), (m_yfe, .inl (cI, 100, .inl fe2_14)), (m_yt, .inl (cI, 7, .inl mq2_15))] ++ tl) H := hP
  have hD : va_D A ([(h0, .inr (8, [.ref qh, .ref qk, .ref qd, .int b0, .ref qa, .ref qm, .ref qs, .ref qp, .ref ql, .ref qt, .ref qz, .ref qf])), (qh, .inr (1, [.int (nI (Pa)), .ref ae, .ref al, .ref au, .ref ao, .ref ar, .ref ak, .ref aw, .ref att, .ref ass])), (ae, .inl (cI, 10, .inl fae)), (al, .inl (cI, 100, .inl fal)), (ao, .inl (cI, 100, .inl fao)), (qa, .inr (0, [.int (nI (Q2_2)), .ref an])), (an, .inl (cI, 100, .inl L2_3)), (qm, .inr (0, [.int (nI (Qm2_4)), .ref mn])), (mn, .inl (cI, 100, .inl Lm2_5)), (qf, .inl (cI, 7, .inl f2_6)), (g0, .inr (9, [.ref m_ys, .ref m_yk, .ref m_yo, .ref m_yt, .int b0, .ref m_yfa, .ref m_yfe, .int mL2_10, .int mS2_11, .int m_mM, .ref m_yro, .ref m_yhe, .ref m_ygr, .int m_mF, .int m_mC, .int m_mY, .ref m_yta, .int (nI (z)), .int (nI (m_mf)), .int (nI (m_mt)), .int m_mv, .int m_mw, .ref m_ywa, .ref m_ybi, .ref m_ysi, .ref m_ynu, .ref m_ymo])), (m_ys, .inl (cI, 449, .inl ms2_12)), (m_yfa, .inl (cI, 100, .inl fa2_13)), (m_yfe, .inl (cI, 100, .inl fe2_14)), (m_yt, .inl (cI, 7, .inl mq2_15))] ++ tl) := hD
  refine lv_pop hx hb dL_law_1040 rfl ?_
  refine lv_goto (tgt := 1483) hx hb dL_law_1041 (by decide) ?_
  exact kkx _ _ _ Q2_2 L2_3 Qm2_4 Lm2_5 f2_6 mL2_10 mS2_11 ms2_12 mq2_15 fa2_13 fe2_14 (xt_P hP [0, 1, 2, 3, 4, 5, 6, 7, 8, 9, 10, 11, 14, 12, 13] rfl) (xt_D hD [0, 1, 2, 3, 4, 5, 6, 7, 8, 9, 10, 11, 14, 12, 13] (by decide +kernel) rfl) i_7 i_8 i_16 i_17 i_18 i_19 i_20 i_24 hS hl
set_option maxHeartbeats 4000000 in
set_option maxRecDepth 100000 in
theorem law_28 {p : Program} {e : Env} {s : State} {m : MethodId} {below : List Frame} {meth : Method} {c : Code} (l : Launch) (D : va_G) (cI cJ cZ cS : ClassId) (ta : Nat) (sa sv : Nat → Nat) {b L : Nat} {xs : Nat → Int32} {A : Nat → Prop} (hL : L ≤ 3072) (hF : CallFix p m c cL_law 4 s #[Value.ref b] (Cond.initialized RX8 :: wsU) RL) (hr : meth.sig.returnType = ret) (hlk : meth.locks = false) (hK : va_K D vwCl (xT cI cJ cZ cS) s) (hN : XN sa s) (hX : va_X b L xs s s.heap) (hbl : b < s.heap.size) (hA : ∀ q : Nat, s.heap.size ≤ q → A q) (hbA : ¬ A b) (hAs : ∀ q, A q → s.heap.size ≤ q) (hZ : ST ta sa sv A s s.heap) (h0 g0 i : Nat) (hi : i + 6 ≤ L) (qh : Nat) (qk : Nat) (qd : Nat) (b0 : Int32) (qa : Nat) (qm : Nat) (qs : Nat) (qp : Nat) (ql : Nat) (qt : Nat) (qz : Nat) (qf : Nat) (Pa : Nat) (ae : Nat) (al : Nat) (au : Nat) (ao : Nat) (ar : Nat) (ak : Nat) (aw : Nat) (att : Nat) (ass : Nat) (fae : Nat → Int32) (fal : Nat → Int32) (fao : Nat → Int32) (Qa : Nat) (an : Nat) (La : Nat → Int32) (Qm : Nat) (mn : Nat) (Lm : Nat → Int32) (ff : Nat → Int32) (m_ys : Nat) (m_yk : Nat) (m_yo : Nat) (m_yt : Nat) (m_yfa : Nat) (m_yfe : Nat) (m_mL : Int32) (m_mS : Int32) (m_mM : Int32) (m_yro : Nat) (m_yhe : Nat) (m_ygr : Nat) (m_mF : Int32) (m_mC : Int32) (m_mY : Int32) (m_yta : Nat) (z : Nat) (m_mf : Nat) (m_mt : Nat) (m_mv : Int32) (m_mw : Int32) (m_ywa : Nat) (m_ybi : Nat) (m_ysi : Nat) (m_ynu : Nat) (m_ymo : Nat) (m_ms : Nat → Int32) (m_mq : Nat → Int32) (m_fa : Nat → Int32) (m_fe : Nat → Int32) (m_P : Nat) (m_Rn : Nat) (m_Wn : Nat) {tl : va_W} {H : Heap} {locs : List Loc} {ls : Array Slot} (hP : va_P D vwCl ([(h0, .inr (8, [.ref qh, .ref qk, .ref qd, .int b0, .ref qa, .ref qm, .ref qs, .ref qp, .ref ql, .ref qt, .ref qz, .ref qf])), (qh, .inr (1, [.int (nI (Pa)), .ref ae, .ref al, .ref au, .ref ao, .ref ar, .ref ak, .ref aw, .ref att, .ref ass])), (ae, .inl (cI, 10, .inl fae)), (al, .inl (cI, 100, .inl fal)), (ao, .inl (cI, 100, .inl fao)), (qa, .inr (0, [.int (nI (Qa)), .ref an])), (an, .inl (cI, 100, .inl La)), (qm, .inr (0, [.int (nI (Qm)), .ref mn])), (mn, .inl (cI, 100, .inl Lm)), (qf, .inl (cI, 7, .inl ff)), (g0, .inr (9, [.ref m_ys, .ref m_yk, .ref m_yo, .ref m_yt, .int b0, .ref m_yfa, .ref m_yfe, .int m_mL, .int m_mS, .int m_mM, .ref m_yro, .ref m_yhe, .ref m_ygr, .int m_mF, .int m_mC, .int m_mY, .ref m_yta, .int (nI (z)), .int (nI (m_mf)), .int (nI (m_mt)), .int m_mv, .int m_mw, .ref m_ywa, .ref m_ybi, .ref m_ysi, .ref m_ynu, .ref m_ymo])), (m_ys, .inl (cI, 449, .inl m_ms)), (m_yt, .inl (cI, 7, .inl m_mq)), (m_yfa, .inl (cI, 100, .inl m_fa)), (m_yfe, .inl (cI, 100, .inl m_fe))] ++ tl) H) (hD : va_D A ([(h0, .inr (8, [.ref qh, .ref qk, .ref qd, .int b0, .ref qa, .ref qm, .ref qs, .ref qp, .ref ql, .ref qt, .ref qz, .ref qf])), (qh, .inr (1, [.int (nI (Pa)), .ref ae, .ref al, .ref au, .ref ao, .ref ar, .ref ak, .ref aw, .ref att, .ref ass])), (ae, .inl (cI, 10, .inl fae)), (al, .inl (cI, 100, .inl fal)), (ao, .inl (cI, 100, .inl fao)), (qa, .inr (0, [.int (nI (Qa)), .ref an])), (an, .inl (cI, 100, .inl La)), (qm, .inr (0, [.int (nI (Qm)), .ref mn])), (mn, .inl (cI, 100, .inl Lm)), (qf, .inl (cI, 7, .inl ff)), (g0, .inr (9, [.ref m_ys, .ref m_yk, .ref m_yo, .ref m_yt, .int b0, .ref m_yfa, .ref m_yfe, .int m_mL, .int m_mS, .int m_mM, .ref m_yro, .ref m_yhe, .ref m_ygr, .int m_mF, .int m_mC, .int m_mY, .ref m_yta, .int (nI (z)), .int (nI (m_mf)), .int (nI (m_mt)), .int m_mv, .int m_mw, .ref m_ywa, .ref m_ybi, .ref m_ysi, .ref m_ynu, .ref m_ymo])), (m_ys, .inl (cI, 449, .inl m_ms)), (m_yt, .inl (cI, 7, .inl m_mq)), (m_yfa, .inl (cI, 100, .inl m_fa)), (m_yfe, .inl (cI, 100, .inl m_fe))] ++ tl)) (hP0 : Pa ≤ 10) (hQa : Qa ≤ 10) (hQm : Qm ≤ 10) (hz : z ≤ 120) (m_hs0 : m_ms 0 = nI m_P) (m_hs1 : m_ms 1 = nI m_Rn) (m_hs2 : m_ms 2 = nI m_Wn) (m_hsS : SI m_ms) (m_hsM : MI m_ms) (m_hsp : m_P ≤ 10) (m_hsr : m_Rn ≤ 8) (m_hsw : m_Wn ≤ 8) (m_hsR : RI m_Rn m_ms) (hS : va_S A s.heap H locs) (hl : lv_has ls 4 [(3, .int (nI i)), (2, .ref g0), (1, .ref h0), (0, .ref b)]) (kkx : ∀ (H : Heap) (locs : List Loc) (ls : Array Slot) (Qa_n : Nat) (La_n : Nat → Int32) (Qm_n : Nat) (Lm_n : Nat → Int32) (ff_n : Nat → Int32) (m_mL_n : Int32) (m_mS_n : Int32) (m_ms_n : Nat → Int32) (m_mq_n : Nat → Int32) (m_fa_n : Nat → Int32) (m_fe_n : Nat → Int32), va_P D vwCl ([(h0, .inr (8, [.ref qh, .ref qk, .ref qd, .int b0, .ref qa, .ref qm, .ref qs, .ref qp, .ref ql, .ref qt, .ref qz, .ref qf])), (qh, .inr (1, [.int (nI (Pa)), .ref ae, .ref al, .ref au, .ref ao, .ref ar, .ref ak, .ref aw, .ref att, .ref ass])), (ae, .inl (cI, 10, .inl fae)), (al, .inl (cI, 100, .inl fal)), (ao, .inl (cI, 100, .inl fao)), (qa, .inr (0, [.int (nI (Qa_n)), .ref an])), (an, .inl (cI, 100, .inl La_n)), (qm, .inr (0, [.int (nI (Qm_n)), .ref mn])), (mn, .inl (cI, 100, .inl Lm_n)), (qf, .inl (cI, 7, .inl ff_n)), (g0, .inr (9, [.ref m_ys, .ref m_yk, .ref m_yo, .ref m_yt, .int b0, .ref m_yfa, .ref m_yfe, .int m_mL_n, .int m_mS_n, .int m_mM, .ref m_yro, .ref m_yhe, .ref m_ygr, .int m_mF, .int m_mC, .int m_mY, .ref m_yta, .int (nI (z)), .int (nI (m_mf)), .int (nI (m_mt)), .int m_mv, .int m_mw, .ref m_ywa, .ref m_ybi, .ref m_ysi, .ref m_ynu, .ref m_ymo])), (m_ys, .inl (cI, 449, .inl m_ms_n)), (m_yt, .inl (cI, 7, .inl m_mq_n)), (m_yfa, .inl (cI, 100, .inl m_fa_n)), (m_yfe, .inl (cI, 100, .inl m_fe_n))] ++ tl) H → va_D A ([(h0, .inr (8, [.ref qh, .ref qk, .ref qd, .int b0, .ref qa, .ref qm, .ref qs, .ref qp, .ref ql, .ref qt, .ref qz, .ref qf])), (qh, .inr (1, [.int (nI (Pa)), .ref ae, .ref al, .ref au, .ref ao, .ref ar, .ref ak, .ref aw, .ref att, .ref ass])), (ae, .inl (cI, 10, .inl fae)), (al, .inl (cI, 100, .inl fal)), (ao, .inl (cI, 100, .inl fao)), (qa, .inr (0, [.int (nI (Qa_n)), .ref an])), (an, .inl (cI, 100, .inl La_n)), (qm, .inr (0, [.int (nI (Qm_n)), .ref mn])), (mn, .inl (cI, 100, .inl Lm_n)), (qf, .inl (cI, 7, .inl ff_n)), (g0, .inr (9, [.ref m_ys, .ref m_yk, .ref m_yo, .ref m_yt, .int b0, .ref m_yfa, .ref m_yfe, .int m_mL_n, .int m_mS_n, .int m_mM, .ref m_yro, .ref m_yhe, .ref m_ygr, .int m_mF, .int m_mC, .int m_mY, .ref m_yta, .int (nI (z)), .int (nI (m_mf)), .int (nI (m_mt)), .int m_mv, .int m_mw, .ref m_ywa, .ref m_ybi, .ref m_ysi, .ref m_ynu, .ref m_ymo])), (m_ys, .inl (cI, 449, .inl m_ms_n)), (m_yt, .inl (cI, 7, .inl m_mq_n)), (m_yfa, .inl (cI, 100, .inl m_fa_n)), (m_yfe, .inl (cI, 100, .inl m_fe_n))] ++ tl) → (Qa_n ≤ 10) → (Qm_n ≤ 10) → (m_ms_n 0 = nI m_P) → (m_ms_n 1 = nI m_Rn) → (m_ms_n 2 = nI m_Wn) → (SI m_ms_n) → (MI m_ms_n) → (RI m_Rn m_ms_n) → va_S A s.heap H locs → lv_has ls 4 [(3, .int (nI i)), (2, .ref g0), (1, .ref h0), (0, .ref b)] → W p l e room_1 s m #[Value.ref b] below meth c H locs 82 4273 (lw_Z below #[Value.ref b] s) (F0 m 1483 ls [])) : W p l e room_1 s m #[Value.ref b] below meth c H locs 82 4273 (lw_Z below #[Value.ref b] s) (F0 m 1044 ls []) := by
  have hx := hF.1
  have hb := hF.2.1
  have hml := hF.2.2.1
  have hown := hF.2.2.2.1
  have hu : ∀ w ∈ wsU, w.before _ s = true := fun w h => hF.2.2.2.2 w (List.mem_cons_of_mem _ h)
  refine lv_aload_n hx hb dL_law_1044 rfl (lv_at hl 2 rfl) ?_
  refine xc_ViT (wr := [(g0, .inr (9, [.ref m_ys, .ref m_yk, .ref m_yo, .ref m_yt, .int b0, .ref m_yfa, .ref m_yfe, .int m_mL, .int m_mS, .int m_mM, .ref m_yro, .ref m_yhe, .ref m_ygr, .int m_mF, .int m_mC, .int m_mY, .ref m_yta, .int (nI (z)), .int (nI (m_mf)), .int (nI (m_mt)), .int m_mv, .int m_mw, .ref m_ywa, .ref m_ybi, .ref m_ysi, .ref m_ynu, .ref m_ymo])), (m_ys, .inl (cI, 449, .inl m_ms)), (m_yt, .inl (cI, 7, .inl m_mq)), (m_yfa, .inl (cI, 100, .inl m_fa)), (m_yfe, .inl (cI, 100, .inl m_fe))]) hF (c_X8_mend l D cI cJ cZ cS ta sa sv H.size h0 qh qk qd b0 qa qm qs qp ql qt qz qf Pa ae al au ao ar ak aw att ass fae fal fao Qa an La Qm mn Lm ff hP0 hQa hQm) kv_L_131 ⟨rfl, rfl, Nat.le_of_ble_eq_true rfl, Nat.le_of_ble_eq_true rfl⟩ ⟨Nat.le_of_ble_eq_true rfl, Nat.le_of_ble_eq_true rfl⟩ hK hN hZ hP hD hS hA [0, 1, 2, 3, 4, 5, 6, 7, 8, 9] [10, 11, 12, 13, 14] rfl rfl rfl rfl (by decide) 0 rfl rfl rfl rfl hl.1 rfl (Nat.le_of_ble_eq_true rfl) dL_law_1045 (fun r_1 u_r_1 H locs hw_r_1 hP hD hS => ?_)
  obtain ⟨Q2_2, L2_3, Qm2_4, Lm2_5, f2_6⟩ := u_r_1
  try dsimp only at hw_r_1
  obtain ⟨hw_r_1, i_7, i_8⟩ := hw_r_1
  have hP : va_P D vwCl ([(g0, .inr (9, [.ref m_ys, .ref m_yk, .ref m_yo, .ref m_yt, .int b0, .ref m_yfa, .ref m_yfe, .int m_mL, .int m_mS, .int m_mM, .ref m_yro, .ref m_yhe, .ref m_ygr, .int m_mF, .int m_mC, .int m_mY, .ref m_yta, .int (nI (z)), .int (nI (m_mf)), .int (nI (m_mt)), .int m_mv, .int m_mw, .ref m_ywa, .ref m_ybi, .ref m_ysi, .ref m_ynu, .ref m_ymo])), (m_ys, .inl (cI, 449, .inl m_ms)), (m_yt, .inl (cI, 7, .inl m_mq)), (m_yfa, .inl (cI, 100, .inl m_fa)), (m_yfe, .inl (cI, 100, .inl m_fe)), (h0, .inr (8, [.ref qh, .ref qk, .ref qd, .int b0, .ref qa, .ref qm, .ref qs, .ref qp, .ref ql, .ref qt, .ref qz, .ref qf])), (qh, .inr (1, [.int (nI (Pa)), .ref ae, .ref al, .ref au, .ref ao, .ref ar, .ref ak, .ref aw, .ref att, .ref ass])), (ae, .inl (cI, 10, .inl fae)), (al, .inl (cI, 100, .inl fal)), (ao, .inl (cI, 100, .inl fao)), (qa, .inr (0, [.int (nI (Q2_2)), .ref an])), (an, .inl (cI, 100, .inl L2_3)), (qm, .inr (0, [.int (nI (Qm2_4)), .ref mn])), (mn, .inl (cI, 100, .inl Lm2_5)), (qf, .inl (cI, 7, .inl f2_6))] ++ tl) H := hP
  have hD : va_D A ([(g0, .inr (9, [.ref m_ys, .ref m_yk, .ref m_yo, .ref m_yt, .int b0, .ref m_yfa, .ref m_yfe, .int m_mL, .int m_mS, .int m_mM, .ref m_yro, .ref m_yhe, .ref m_ygr, .int m_mF, .int m_mC, .int m_mY, .ref m_yta, .int (nI (z)), .int (nI (m_mf)), .int (nI (m_mt)), .int m_mv, .int m_mw, .ref m_ywa, .ref m_ybi, .ref m_ysi, .ref m_ynu, .ref m_ymo])), (m_ys, .inl (cI, 449, .inl m_ms)), (m_yt, .inl (cI, 7, .inl m_mq)), (m_yfa, .inl (cI, 100, .inl m_fa)), (m_yfe, .inl (cI, 100, .inl m_fe)), (h0, .inr (8, [.ref qh, .ref qk, .ref qd, .int b0, .ref qa, .ref qm, .ref qs, .ref qp, .ref ql, .ref qt, .ref qz, .ref qf])), (qh, .inr (1, [.int (nI (Pa)), .ref ae, .ref al, .ref au, .ref ao, .ref ar, .ref ak, .ref aw, .ref att, .ref ass])), (ae, .inl (cI, 10, .inl fae)), (al, .inl (cI, 100, .inl fal)), (ao, .inl (cI, 100, .inl fao)), (qa, .inr (0, [.int (nI (Q2_2)), .ref an])), (an, .inl (cI, 100, .inl L2_3)), (qm, .inr (0, [.int (nI (Qm2_4)), .ref mn])), (mn, .inl (cI, 100, .inl Lm2_5)), (qf, .inl (cI, 7, .inl f2_6))] ++ tl) := hD
  refine lv_pop hx hb dL_law_1048 rfl ?_
  refine lv_aload_n hx hb dL_law_1049 rfl (lv_at hl 1 rfl) ?_
  refine xc_ViT (wr := [(h0, .inr (8, [.ref qh, .ref qk, .ref qd, .int b0, .ref qa, .ref qm, .ref qs, .ref qp, .ref ql, .ref qt, .ref qz, .ref qf])), (qh, .inr (1, [.int (nI (Pa)), .ref ae, .ref al, .ref au, .ref ao, .ref ar, .ref ak, .ref aw, .ref att, .ref ass])), (ae, .inl (cI, 10, .inl fae)), (al, .inl (cI, 100, .inl fal)), (ao, .inl (cI, 100, .inl fao)), (qa, .inr (0, [.int (nI (Q2_2)), .ref an])), (an, .inl (cI, 100, .inl L2_3)), (qm, .inr (0, [.int (nI (Qm2_4)), .ref mn])), (mn, .inl (cI, 100, .inl Lm2_5)), (qf, .inl (cI, 7, .inl f2_6))]) hF (c_X9_mend l D cI cJ cZ cS ta sa sv H.size g0 m_ys m_yk m_yo m_yt b0 m_yfa m_yfe m_mL m_mS m_mM m_yro m_yhe m_ygr m_mF m_mC m_mY m_yta z m_mf m_mt m_mv m_mw m_ywa m_ybi m_ysi m_ynu m_ymo m_ms m_fa m_fe m_mq m_P m_Rn m_Wn m_hs0 m_hs1 m_hs2 m_hsS m_hsM m_hsp m_hsr m_hsw m_hsR) kv_L_134 ⟨rfl, rfl, Nat.le_of_ble_eq_true rfl, Nat.le_of_ble_eq_true rfl⟩ ⟨Nat.le_of_ble_eq_true rfl, Nat.le_of_ble_eq_true rfl⟩ hK hN hZ hP hD hS hA [0, 1, 3, 4, 2] [5, 6, 7, 8, 9, 10, 11, 12, 13, 14] rfl rfl rfl rfl (by decide) 0 rfl rfl rfl rfl hl.1 rfl (Nat.le_of_ble_eq_true rfl) dL_law_1050 (fun r_9 u_r_9 H locs hw_r_9 hP hD hS => ?_)
  obtain ⟨mL2_10, mS2_11, ms2_12, fa2_13, fe2_14, mq2_15⟩ := u_r_9
  try dsimp only at hw_r_9
  obtain ⟨hw_r_9, i_16, i_17, i_18, i_19, i_20, i_21, i_22, i_23, i_24⟩ := hw_r_9
  have hP : va_P D vwCl ([(h0, .inr (8, [.ref qh, .ref qk, .ref qd, .int b0, .ref qa, .ref qm, .ref qs, .ref qp, .ref ql, .ref qt, .ref qz, .ref qf])), (qh, .inr (1, [.int (nI (Pa)), .ref ae, .ref al, .ref au, .ref ao, .ref ar, .ref ak, .ref aw, .ref att, .ref ass])), (ae, .inl (cI, 10, .inl fae)), (al, .inl (cI, 100, .inl fal)), (ao, .inl (cI, 100, .inl fao)), (qa, .inr (0, [.int (nI (Q2_2)), .ref an])), (an, .inl (cI, 100, .inl L2_3)), (qm, .inr (0, [.int (nI (Qm2_4)), .ref mn])), (mn, .inl (cI, 100, .inl Lm2_5)), (qf, .inl (cI, 7, .inl f2_6)), (g0, .inr (9, [.ref m_ys, .ref m_yk, .ref m_yo, .ref m_yt, .int b0, .ref m_yfa, .ref m_yfe, .int mL2_10, .int mS2_11, .int m_mM, .ref m_yro, .ref m_yhe, .ref m_ygr, .int m_mF, .int m_mC, .int m_mY, .ref m_yta, .int (nI (z)), .int (nI (m_mf)), .int (nI (m_mt)), .int m_mv, .int m_mw, .ref m_ywa, .ref m_ybi, .ref m_ysi, .ref m_ynu, .ref m_ymo])), (m_ys, .inl (cI, 449, .inl ms2_12)), (m_yfa, .inl (cI, 100, .inl fa2_13)), (m_yfe, .inl (cI, 100, .inl fe2_14)), (m_yt, .inl (cI, 7, .inl mq2_15))] ++ tl) H := hP
  have hD : va_D A ([(h0, .inr (8, [.ref qh, .ref qk, .ref qd, .int b0, .ref qa, .ref qm, .ref qs, .ref qp, .ref ql, .ref qt, .ref qz, .ref qf])), (qh, .inr (1, [.int (nI (Pa)), .ref ae, .ref al, .ref au, .ref ao, .ref ar, .ref ak, .ref aw, .ref att, .ref ass])), (ae, .inl (cI, 10, .inl fae)), (al, .inl (cI, 100, .inl fal)), (ao, .inl (cI, 100, .inl fao)), (qa, .inr (0, [.int (nI (Q2_2)), .ref an])), (an, .inl (cI, 100, .inl L2_3)), (qm, .inr (0, [.int (nI (Qm2_4)), .ref mn])), (mn, .inl (cI, 100, .inl Lm2_5)), (qf, .inl (cI, 7, .inl f2_6)), (g0, .inr (9, [.ref m_ys, .ref m_yk, .ref m_yo, .ref m_yt, .int b0, .ref m_yfa, .ref m_yfe, .int mL2_10, .int mS2_11, .int m_mM, .ref m_yro, .ref m_yhe, .ref m_ygr, .int m_mF, .int m_mC, .int m_mY, .ref m_yta, .int (nI (z)), .int (nI (m_mf)), .int (nI (m_mt)), .int m_mv, .int m_mw, .ref m_ywa, .ref m_ybi, .ref m_ysi, .ref m_ynu, .ref m_ymo])), (m_ys, .inl (cI, 449, .inl ms2_12)), (m_yfa, .inl (cI, 100, .inl fa2_13)), (m_yfe, .inl (cI, 100, .inl fe2_14)), (m_yt, .inl (cI, 7, .inl mq2_15))] ++ tl) := hD
  refine lv_pop hx hb dL_law_1053 rfl ?_
  refine lv_goto (tgt := 1483) hx hb dL_law_1054 (by decide) ?_
  exact kkx _ _ _ Q2_2 L2_3 Qm2_4 Lm2_5 f2_6 mL2_10 mS2_11 ms2_12 mq2_15 fa2_13 fe2_14 (xt_P hP [0, 1, 2, 3, 4, 5, 6, 7, 8, 9, 10, 11, 14, 12, 13] rfl) (xt_D hD [0, 1, 2, 3, 4, 5, 6, 7, 8, 9, 10, 11, 14, 12, 13] (by decide +kernel) rfl) i_7 i_8 i_16 i_17 i_18 i_19 i_20 i_24 hS hl
set_option maxHeartbeats 4000000 in
set_option maxRecDepth 100000 in
theorem law_29 {p : Program} {e : Env} {s : State} {m : MethodId} {below : List Frame} {meth : Method} {c : Code} (l : Launch) (D : va_G) (cI cJ cZ cS : ClassId) (ta : Nat) (sa sv : Nat → Nat) {b L : Nat} {xs : Nat → Int32} {A : Nat → Prop} (hL : L ≤ 3072) (hF : CallFix p m c cL_law 4 s #[Value.ref b] (Cond.initialized RX8 :: wsU) RL) (hr : meth.sig.returnType = ret) (hlk : meth.locks = false) (hK : va_K D vwCl (xT cI cJ cZ cS) s) (hN : XN sa s) (hX : va_X b L xs s s.heap) (hbl : b < s.heap.size) (hA : ∀ q : Nat, s.heap.size ≤ q → A q) (hbA : ¬ A b) (hAs : ∀ q, A q → s.heap.size ≤ q) (hZ : ST ta sa sv A s s.heap) (h0 g0 i : Nat) (hi : i + 6 ≤ L) (qh : Nat) (qk : Nat) (qd : Nat) (b0 : Int32) (qa : Nat) (qm : Nat) (qs : Nat) (qp : Nat) (ql : Nat) (qt : Nat) (qz : Nat) (qf : Nat) (Pa : Nat) (ae : Nat) (al : Nat) (au : Nat) (ao : Nat) (ar : Nat) (ak : Nat) (aw : Nat) (att : Nat) (ass : Nat) (fal : Nat → Int32) (fao : Nat → Int32) (ff : Nat → Int32) (m_ys : Nat) (m_yk : Nat) (m_yo : Nat) (m_yt : Nat) (m_yfa : Nat) (m_yfe : Nat) (m_mL : Int32) (m_mS : Int32) (m_mM : Int32) (m_yro : Nat) (m_yhe : Nat) (m_ygr : Nat) (m_mF : Int32) (m_mC : Int32) (m_mY : Int32) (m_yta : Nat) (z : Nat) (m_mf : Nat) (m_mt : Nat) (m_mv : Int32) (m_mw : Int32) (m_ywa : Nat) (m_ybi : Nat) (m_ysi : Nat) (m_ynu : Nat) (m_ymo : Nat) (m_ms : Nat → Int32) (m_mq : Nat → Int32) (m_P : Nat) (m_Rn : Nat) (m_Wn : Nat) {tl : va_W} {H : Heap} {locs : List Loc} {ls : Array Slot} (hP : va_P D vwCl ([(h0, .inr (8, [.ref qh, .ref qk, .ref qd, .int b0, .ref qa, .ref qm, .ref qs, .ref qp, .ref ql, .ref qt, .ref qz, .ref qf])), (qh, .inr (1, [.int (nI (Pa)), .ref ae, .ref al, .ref au, .ref ao, .ref ar, .ref ak, .ref aw, .ref att, .ref ass])), (al, .inl (cI, 100, .inl fal)), (ao, .inl (cI, 100, .inl fao)), (qf, .inl (cI, 7, .inl ff)), (g0, .inr (9, [.ref m_ys, .ref m_yk, .ref m_yo, .ref m_yt, .int b0, .ref m_yfa, .ref m_yfe, .int m_mL, .int m_mS, .int m_mM, .ref m_yro, .ref m_yhe, .ref m_ygr, .int m_mF, .int m_mC, .int m_mY, .ref m_yta, .int (nI (z)), .int (nI (m_mf)), .int (nI (m_mt)), .int m_mv, .int m_mw, .ref m_ywa, .ref m_ybi, .ref m_ysi, .ref m_ynu, .ref m_ymo])), (m_ys, .inl (cI, 449, .inl m_ms)), (m_yt, .inl (cI, 7, .inl m_mq))] ++ tl) H) (hD : va_D A ([(h0, .inr (8, [.ref qh, .ref qk, .ref qd, .int b0, .ref qa, .ref qm, .ref qs, .ref qp, .ref ql, .ref qt, .ref qz, .ref qf])), (qh, .inr (1, [.int (nI (Pa)), .ref ae, .ref al, .ref au, .ref ao, .ref ar, .ref ak, .ref aw, .ref att, .ref ass])), (al, .inl (cI, 100, .inl fal)), (ao, .inl (cI, 100, .inl fao)), (qf, .inl (cI, 7, .inl ff)), (g0, .inr (9, [.ref m_ys, .ref m_yk, .ref m_yo, .ref m_yt, .int b0, .ref m_yfa, .ref m_yfe, .int m_mL, .int m_mS, .int m_mM, .ref m_yro, .ref m_yhe, .ref m_ygr, .int m_mF, .int m_mC, .int m_mY, .ref m_yta, .int (nI (z)), .int (nI (m_mf)), .int (nI (m_mt)), .int m_mv, .int m_mw, .ref m_ywa, .ref m_ybi, .ref m_ysi, .ref m_ynu, .ref m_ymo])), (m_ys, .inl (cI, 449, .inl m_ms)), (m_yt, .inl (cI, 7, .inl m_mq))] ++ tl)) (hP0 : Pa ≤ 10) (hz : z ≤ 120) (m_hs0 : m_ms 0 = nI m_P) (m_hs1 : m_ms 1 = nI m_Rn) (m_hs2 : m_ms 2 = nI m_Wn) (m_hsS : SI m_ms) (m_hsM : MI m_ms) (m_hsp : m_P ≤ 10) (m_hsr : m_Rn ≤ 8) (m_hsw : m_Wn ≤ 8) (m_hsR : RI m_Rn m_ms) (hS : va_S A s.heap H locs) (hl : lv_has ls 4 [(3, .int (nI i)), (2, .ref g0), (1, .ref h0), (0, .ref b)]) (kkx : ∀ (H : Heap) (locs : List Loc) (ls : Array Slot) (ff_n : Nat → Int32) (m_mq_n : Nat → Int32), va_P D vwCl ([(h0, .inr (8, [.ref qh, .ref qk, .ref qd, .int b0, .ref qa, .ref qm, .ref qs, .ref qp, .ref ql, .ref qt, .ref qz, .ref qf])), (qh, .inr (1, [.int (nI (Pa)), .ref ae, .ref al, .ref au, .ref ao, .ref ar, .ref ak, .ref aw, .ref att, .ref ass])), (al, .inl (cI, 100, .inl fal)), (ao, .inl (cI, 100, .inl fao)), (qf, .inl (cI, 7, .inl ff_n)), (g0, .inr (9, [.ref m_ys, .ref m_yk, .ref m_yo, .ref m_yt, .int b0, .ref m_yfa, .ref m_yfe, .int m_mL, .int m_mS, .int m_mM, .ref m_yro, .ref m_yhe, .ref m_ygr, .int m_mF, .int m_mC, .int m_mY, .ref m_yta, .int (nI (z)), .int (nI (m_mf)), .int (nI (m_mt)), .int m_mv, .int m_mw, .ref m_ywa, .ref m_ybi, .ref m_ysi, .ref m_ynu, .ref m_ymo])), (m_ys, .inl (cI, 449, .inl m_ms)), (m_yt, .inl (cI, 7, .inl m_mq_n))] ++ tl) H → va_D A ([(h0, .inr (8, [.ref qh, .ref qk, .ref qd, .int b0, .ref qa, .ref qm, .ref qs, .ref qp, .ref ql, .ref qt, .ref qz, .ref qf])), (qh, .inr (1, [.int (nI (Pa)), .ref ae, .ref al, .ref au, .ref ao, .ref ar, .ref ak, .ref aw, .ref att, .ref ass])), (al, .inl (cI, 100, .inl fal)), (ao, .inl (cI, 100, .inl fao)), (qf, .inl (cI, 7, .inl ff_n)), (g0, .inr (9, [.ref m_ys, .ref m_yk, .ref m_yo, .ref m_yt, .int b0, .ref m_yfa, .ref m_yfe, .int m_mL, .int m_mS, .int m_mM, .ref m_yro, .ref m_yhe, .ref m_ygr, .int m_mF, .int m_mC, .int m_mY, .ref m_yta, .int (nI (z)), .int (nI (m_mf)), .int (nI (m_mt)), .int m_mv, .int m_mw, .ref m_ywa, .ref m_ybi, .ref m_ysi, .ref m_ynu, .ref m_ymo])), (m_ys, .inl (cI, 449, .inl m_ms)), (m_yt, .inl (cI, 7, .inl m_mq_n))] ++ tl) → va_S A s.heap H locs → lv_has ls 4 [(3, .int (nI i)), (2, .ref g0), (1, .ref h0), (0, .ref b)] → W p l e room_1 s m #[Value.ref b] below meth c H locs 82 4273 (lw_Z below #[Value.ref b] s) (F0 m 1483 ls [])) : W p l e room_1 s m #[Value.ref b] below meth c H locs 82 4273 (lw_Z below #[Value.ref b] s) (F0 m 1057 ls []) := by
  have hx := hF.1
  have hb := hF.2.1
  have hml := hF.2.2.1
  have hown := hF.2.2.2.1
  have hu : ∀ w ∈ wsU, w.before _ s = true := fun w h => hF.2.2.2.2 w (List.mem_cons_of_mem _ h)
  refine lv_aload_n hx hb dL_law_1057 rfl (lv_at hl 2 rfl) ?_
  refine lv_aload_n hx hb dL_law_1058 rfl (lv_at hl 3 rfl) ?_
  refine lv_iload_n hx hb dL_law_1059 rfl (lv_at hl 0 rfl) ?_
  refine lv_iconst (v := 1) hx hb dL_law_1060 (by decide) ?_
  refine lv_iadd hx hb dL_law_1061 ?_
  refine xl_i (y := nI (i + 1)) (nI_add i 1) ?_
  refine va_sld hx hb hX hbl hbA hS (x_si (k := 1) (by decide) hi hL) dL_law_1062 ?_
  refine xl_i (y := xs (i + 1)) (congrArg xs (x_sc (k := 1) (by decide) hi hL)) ?_
  refine lv_aload_n hx hb dL_law_1063 rfl (lv_at hl 3 rfl) ?_
  refine lv_iload_n hx hb dL_law_1064 rfl (lv_at hl 0 rfl) ?_
  refine lv_iconst (v := 2) hx hb dL_law_1065 (by decide) ?_
  refine lv_iadd hx hb dL_law_1066 ?_
  refine xl_i (y := nI (i + 2)) (nI_add i 2) ?_
  refine va_sld hx hb hX hbl hbA hS (x_si (k := 2) (by decide) hi hL) dL_law_1067 ?_
  refine xl_i (y := xs (i + 2)) (congrArg xs (x_sc (k := 2) (by decide) hi hL)) ?_
  refine xc_ViT (wr := [(g0, .inr (9, [.ref m_ys, .ref m_yk, .ref m_yo, .ref m_yt, .int b0, .ref m_yfa, .ref m_yfe, .int m_mL, .int m_mS, .int m_mM, .ref m_yro, .ref m_yhe, .ref m_ygr, .int m_mF, .int m_mC, .int m_mY, .ref m_yta, .int (nI (z)), .int (nI (m_mf)), .int (nI (m_mt)), .int m_mv, .int m_mw, .ref m_ywa, .ref m_ybi, .ref m_ysi, .ref m_ynu, .ref m_ymo])), (m_ys, .inl (cI, 449, .inl m_ms)), (m_yt, .inl (cI, 7, .inl m_mq))]) hF (c_X8_goes l D cI cJ cZ cS ta sa sv H.size h0 qh qk qd b0 qa qm qs qp ql qt qz qf Pa ae al au ao ar ak aw att ass fal fao ff (xs (i + 1)) (xs (i + 2)) hP0) kv_L_135 ⟨rfl, rfl, Nat.le_of_ble_eq_true rfl, Nat.le_of_ble_eq_true rfl⟩ ⟨Nat.le_of_ble_eq_true rfl, Nat.le_of_ble_eq_true rfl⟩ hK hN hZ hP hD hS hA [0, 1, 2, 3, 4] [5, 6, 7] rfl rfl rfl rfl (by decide) 0 rfl rfl rfl rfl hl.1 rfl (Nat.le_of_ble_eq_true rfl) dL_law_1068 (fun r_1 u_r_1 H locs hw_r_1 hP hD hS => ?_)
  obtain ⟨f2_2, rfl⟩ : ∃ z, z = u_r_1 := ⟨_, rfl⟩
  try dsimp only at hw_r_1
  have hP : va_P D vwCl ([(g0, .inr (9, [.ref m_ys, .ref m_yk, .ref m_yo, .ref m_yt, .int b0, .ref m_yfa, .ref m_yfe, .int m_mL, .int m_mS, .int m_mM, .ref m_yro, .ref m_yhe, .ref m_ygr, .int m_mF, .int m_mC, .int m_mY, .ref m_yta, .int (nI (z)), .int (nI (m_mf)), .int (nI (m_mt)), .int m_mv, .int m_mw, .ref m_ywa, .ref m_ybi, .ref m_ysi, .ref m_ynu, .ref m_ymo])), (m_ys, .inl (cI, 449, .inl m_ms)), (m_yt, .inl (cI, 7, .inl m_mq)), (h0, .inr (8, [.ref qh, .ref qk, .ref qd, .int b0, .ref qa, .ref qm, .ref qs, .ref qp, .ref ql, .ref qt, .ref qz, .ref qf])), (qh, .inr (1, [.int (nI (Pa)), .ref ae, .ref al, .ref au, .ref ao, .ref ar, .ref ak, .ref aw, .ref att, .ref ass])), (al, .inl (cI, 100, .inl fal)), (ao, .inl (cI, 100, .inl fao)), (qf, .inl (cI, 7, .inl f2_2))] ++ tl) H := hP
  have hD : va_D A ([(g0, .inr (9, [.ref m_ys, .ref m_yk, .ref m_yo, .ref m_yt, .int b0, .ref m_yfa, .ref m_yfe, .int m_mL, .int m_mS, .int m_mM, .ref m_yro, .ref m_yhe, .ref m_ygr, .int m_mF, .int m_mC, .int m_mY, .ref m_yta, .int (nI (z)), .int (nI (m_mf)), .int (nI (m_mt)), .int m_mv, .int m_mw, .ref m_ywa, .ref m_ybi, .ref m_ysi, .ref m_ynu, .ref m_ymo])), (m_ys, .inl (cI, 449, .inl m_ms)), (m_yt, .inl (cI, 7, .inl m_mq)), (h0, .inr (8, [.ref qh, .ref qk, .ref qd, .int b0, .ref qa, .ref qm, .ref qs, .ref qp, .ref ql, .ref qt, .ref qz, .ref qf])), (qh, .inr (1, [.int (nI (Pa)), .ref ae, .ref al, .ref au, .ref ao, .ref ar, .ref ak, .ref aw, .ref att, .ref ass])), (al, .inl (cI, 100, .inl fal)), (ao, .inl (cI, 100, .inl fao)), (qf, .inl (cI, 7, .inl f2_2))] ++ tl) := hD
  refine lv_pop hx hb dL_law_1071 rfl ?_
  refine lv_aload_n hx hb dL_law_1072 rfl (lv_at hl 1 rfl) ?_
  refine lv_aload_n hx hb dL_law_1073 rfl (lv_at hl 3 rfl) ?_
  refine lv_iload_n hx hb dL_law_1074 rfl (lv_at hl 0 rfl) ?_
  refine lv_iconst (v := 1) hx hb dL_law_1075 (by decide) ?_
  refine lv_iadd hx hb dL_law_1076 ?_
  refine xl_i (y := nI (i + 1)) (nI_add i 1) ?_
  refine va_sld hx hb hX hbl hbA hS (x_si (k := 1) (by decide) hi hL) dL_law_1077 ?_
  refine xl_i (y := xs (i + 1)) (congrArg xs (x_sc (k := 1) (by decide) hi hL)) ?_
  refine lv_aload_n hx hb dL_law_1078 rfl (lv_at hl 3 rfl) ?_
  refine lv_iload_n hx hb dL_law_1079 rfl (lv_at hl 0 rfl) ?_
  refine lv_iconst (v := 2) hx hb dL_law_1080 (by decide) ?_
  refine lv_iadd hx hb dL_law_1081 ?_
  refine xl_i (y := nI (i + 2)) (nI_add i 2) ?_
  refine va_sld hx hb hX hbl hbA hS (x_si (k := 2) (by decide) hi hL) dL_law_1082 ?_
  refine xl_i (y := xs (i + 2)) (congrArg xs (x_sc (k := 2) (by decide) hi hL)) ?_
  refine xc_ViT (wr := [(h0, .inr (8, [.ref qh, .ref qk, .ref qd, .int b0, .ref qa, .ref qm, .ref qs, .ref qp, .ref ql, .ref qt, .ref qz, .ref qf])), (qh, .inr (1, [.int (nI (Pa)), .ref ae, .ref al, .ref au, .ref ao, .ref ar, .ref ak, .ref aw, .ref att, .ref ass])), (al, .inl (cI, 100, .inl fal)), (ao, .inl (cI, 100, .inl fao)), (qf, .inl (cI, 7, .inl f2_2))]) hF (c_X9_goes l D cI cJ cZ cS ta sa sv H.size g0 m_ys m_yk m_yo m_yt b0 m_yfa m_yfe m_mL m_mS m_mM m_yro m_yhe m_ygr m_mF m_mC m_mY m_yta z m_mf m_mt m_mv m_mw m_ywa m_ybi m_ysi m_ynu m_ymo m_ms m_mq m_P m_Rn m_Wn (xs (i + 1)) (xs (i + 2)) m_hs0 m_hs1 m_hs2 m_hsS m_hsM m_hsp m_hsr m_hsw m_hsR) kv_L_138 ⟨rfl, rfl, Nat.le_of_ble_eq_true rfl, Nat.le_of_ble_eq_true rfl⟩ ⟨Nat.le_of_ble_eq_true rfl, Nat.le_of_ble_eq_true rfl⟩ hK hN hZ hP hD hS hA [0, 1, 2] [3, 4, 5, 6, 7] rfl rfl rfl rfl (by decide) 0 rfl rfl rfl rfl hl.1 rfl (Nat.le_of_ble_eq_true rfl) dL_law_1083 (fun r_3 u_r_3 H locs hw_r_3 hP hD hS => ?_)
  obtain ⟨mq2_4, rfl⟩ : ∃ z, z = u_r_3 := ⟨_, rfl⟩
  try dsimp only at hw_r_3
  have hP : va_P D vwCl ([(h0, .inr (8, [.ref qh, .ref qk, .ref qd, .int b0, .ref qa, .ref qm, .ref qs, .ref qp, .ref ql, .ref qt, .ref qz, .ref qf])), (qh, .inr (1, [.int (nI (Pa)), .ref ae, .ref al, .ref au, .ref ao, .ref ar, .ref ak, .ref aw, .ref att, .ref ass])), (al, .inl (cI, 100, .inl fal)), (ao, .inl (cI, 100, .inl fao)), (qf, .inl (cI, 7, .inl f2_2)), (g0, .inr (9, [.ref m_ys, .ref m_yk, .ref m_yo, .ref m_yt, .int b0, .ref m_yfa, .ref m_yfe, .int m_mL, .int m_mS, .int m_mM, .ref m_yro, .ref m_yhe, .ref m_ygr, .int m_mF, .int m_mC, .int m_mY, .ref m_yta, .int (nI (z)), .int (nI (m_mf)), .int (nI (m_mt)), .int m_mv, .int m_mw, .ref m_ywa, .ref m_ybi, .ref m_ysi, .ref m_ynu, .ref m_ymo])), (m_ys, .inl (cI, 449, .inl m_ms)), (m_yt, .inl (cI, 7, .inl mq2_4))] ++ tl) H := hP
  have hD : va_D A ([(h0, .inr (8, [.ref qh, .ref qk, .ref qd, .int b0, .ref qa, .ref qm, .ref qs, .ref qp, .ref ql, .ref qt, .ref qz, .ref qf])), (qh, .inr (1, [.int (nI (Pa)), .ref ae, .ref al, .ref au, .ref ao, .ref ar, .ref ak, .ref aw, .ref att, .ref ass])), (al, .inl (cI, 100, .inl fal)), (ao, .inl (cI, 100, .inl fao)), (qf, .inl (cI, 7, .inl f2_2)), (g0, .inr (9, [.ref m_ys, .ref m_yk, .ref m_yo, .ref m_yt, .int b0, .ref m_yfa, .ref m_yfe, .int m_mL, .int m_mS, .int m_mM, .ref m_yro, .ref m_yhe, .ref m_ygr, .int m_mF, .int m_mC, .int m_mY, .ref m_yta, .int (nI (z)), .int (nI (m_mf)), .int (nI (m_mt)), .int m_mv, .int m_mw, .ref m_ywa, .ref m_ybi, .ref m_ysi, .ref m_ynu, .ref m_ymo])), (m_ys, .inl (cI, 449, .inl m_ms)), (m_yt, .inl (cI, 7, .inl mq2_4))] ++ tl) := hD
  refine lv_pop hx hb dL_law_1086 rfl ?_
  refine lv_goto (tgt := 1483) hx hb dL_law_1087 (by decide) ?_
  exact kkx _ _ _ f2_2 mq2_4 (xt_P hP [0, 1, 2, 3, 4, 5, 6, 7] rfl) (xt_D hD [0, 1, 2, 3, 4, 5, 6, 7] (by decide +kernel) rfl)  hS hl
set_option maxHeartbeats 4000000 in
set_option maxRecDepth 100000 in
theorem law_30 {p : Program} {e : Env} {s : State} {m : MethodId} {below : List Frame} {meth : Method} {c : Code} (l : Launch) (D : va_G) (cI cJ cZ cS : ClassId) (ta : Nat) (sa sv : Nat → Nat) {b L : Nat} {xs : Nat → Int32} {A : Nat → Prop} (hL : L ≤ 3072) (hF : CallFix p m c cL_law 4 s #[Value.ref b] (Cond.initialized RX8 :: wsU) RL) (hr : meth.sig.returnType = ret) (hlk : meth.locks = false) (hK : va_K D vwCl (xT cI cJ cZ cS) s) (hN : XN sa s) (hX : va_X b L xs s s.heap) (hbl : b < s.heap.size) (hA : ∀ q : Nat, s.heap.size ≤ q → A q) (hbA : ¬ A b) (hAs : ∀ q, A q → s.heap.size ≤ q) (hZ : ST ta sa sv A s s.heap) (h0 g0 i : Nat) (hi : i + 6 ≤ L) (qh : Nat) (qk : Nat) (qd : Nat) (b0 : Int32) (qa : Nat) (qm : Nat) (qs : Nat) (qp : Nat) (ql : Nat) (qt : Nat) (qz : Nat) (qf : Nat) (Pa : Nat) (ae : Nat) (al : Nat) (au : Nat) (ao : Nat) (ar : Nat) (ak : Nat) (aw : Nat) (att : Nat) (ass : Nat) (fal : Nat → Int32) (fao : Nat → Int32) (m_ys : Nat) (m_yk : Nat) (m_yo : Nat) (m_yt : Nat) (m_yfa : Nat) (m_yfe : Nat) (m_mL : Int32) (m_mS : Int32) (m_mM : Int32) (m_yro : Nat) (m_yhe : Nat) (m_ygr : Nat) (m_mF : Int32) (m_mC : Int32) (m_mY : Int32) (m_yta : Nat) (z : Nat) (m_mf : Nat) (m_mt : Nat) (m_mv : Int32) (m_mw : Int32) (m_ywa : Nat) (m_ybi : Nat) (m_ysi : Nat) (m_ynu : Nat) (m_ymo : Nat) (m_ms : Nat → Int32) (m_P : Nat) (m_Rn : Nat) (m_Wn : Nat) {tl : va_W} {H : Heap} {locs : List Loc} {ls : Array Slot} (hP : va_P D vwCl ([(h0, .inr (8, [.ref qh, .ref qk, .ref qd, .int b0, .ref qa, .ref qm, .ref qs, .ref qp, .ref ql, .ref qt, .ref qz, .ref qf])), (qh, .inr (1, [.int (nI (Pa)), .ref ae, .ref al, .ref au, .ref ao, .ref ar, .ref ak, .ref aw, .ref att, .ref ass])), (al, .inl (cI, 100, .inl fal)), (ao, .inl (cI, 100, .inl fao)), (g0, .inr (9, [.ref m_ys, .ref m_yk, .ref m_yo, .ref m_yt, .int b0, .ref m_yfa, .ref m_yfe, .int m_mL, .int m_mS, .int m_mM, .ref m_yro, .ref m_yhe, .ref m_ygr, .int m_mF, .int m_mC, .int m_mY, .ref m_yta, .int (nI (z)), .int (nI (m_mf)), .int (nI (m_mt)), .int m_mv, .int m_mw, .ref m_ywa, .ref m_ybi, .ref m_ysi, .ref m_ynu, .ref m_ymo])), (m_ys, .inl (cI, 449, .inl m_ms))] ++ tl) H) (hD : va_D A ([(h0, .inr (8, [.ref qh, .ref qk, .ref qd, .int b0, .ref qa, .ref qm, .ref qs, .ref qp, .ref ql, .ref qt, .ref qz, .ref qf])), (qh, .inr (1, [.int (nI (Pa)), .ref ae, .ref al, .ref au, .ref ao, .ref ar, .ref ak, .ref aw, .ref att, .ref ass])), (al, .inl (cI, 100, .inl fal)), (ao, .inl (cI, 100, .inl fao)), (g0, .inr (9, [.ref m_ys, .ref m_yk, .ref m_yo, .ref m_yt, .int b0, .ref m_yfa, .ref m_yfe, .int m_mL, .int m_mS, .int m_mM, .ref m_yro, .ref m_yhe, .ref m_ygr, .int m_mF, .int m_mC, .int m_mY, .ref m_yta, .int (nI (z)), .int (nI (m_mf)), .int (nI (m_mt)), .int m_mv, .int m_mw, .ref m_ywa, .ref m_ybi, .ref m_ysi, .ref m_ynu, .ref m_ymo])), (m_ys, .inl (cI, 449, .inl m_ms))] ++ tl)) (hP0 : Pa ≤ 10) (hz : z ≤ 120) (m_hs0 : m_ms 0 = nI m_P) (m_hs1 : m_ms 1 = nI m_Rn) (m_hs2 : m_ms 2 = nI m_Wn) (m_hsS : SI m_ms) (m_hsM : MI m_ms) (m_hsp : m_P ≤ 10) (m_hsr : m_Rn ≤ 8) (m_hsw : m_Wn ≤ 8) (m_hsR : RI m_Rn m_ms) (hS : va_S A s.heap H locs) (hl : lv_has ls 4 [(3, .int (nI i)), (2, .ref g0), (1, .ref h0), (0, .ref b)]) (kkx : ∀ (H : Heap) (locs : List Loc) (ls : Array Slot), va_P D vwCl ([(h0, .inr (8, [.ref qh, .ref qk, .ref qd, .int b0, .ref qa, .ref qm, .ref qs, .ref qp, .ref ql, .ref qt, .ref qz, .ref qf])), (qh, .inr (1, [.int (nI (Pa)), .ref ae, .ref al, .ref au, .ref ao, .ref ar, .ref ak, .ref aw, .ref att, .ref ass])), (al, .inl (cI, 100, .inl fal)), (ao, .inl (cI, 100, .inl fao)), (g0, .inr (9, [.ref m_ys, .ref m_yk, .ref m_yo, .ref m_yt, .int b0, .ref m_yfa, .ref m_yfe, .int m_mL, .int m_mS, .int m_mM, .ref m_yro, .ref m_yhe, .ref m_ygr, .int m_mF, .int m_mC, .int m_mY, .ref m_yta, .int (nI (z)), .int (nI (m_mf)), .int (nI (m_mt)), .int m_mv, .int m_mw, .ref m_ywa, .ref m_ybi, .ref m_ysi, .ref m_ynu, .ref m_ymo])), (m_ys, .inl (cI, 449, .inl m_ms))] ++ tl) H → va_D A ([(h0, .inr (8, [.ref qh, .ref qk, .ref qd, .int b0, .ref qa, .ref qm, .ref qs, .ref qp, .ref ql, .ref qt, .ref qz, .ref qf])), (qh, .inr (1, [.int (nI (Pa)), .ref ae, .ref al, .ref au, .ref ao, .ref ar, .ref ak, .ref aw, .ref att, .ref ass])), (al, .inl (cI, 100, .inl fal)), (ao, .inl (cI, 100, .inl fao)), (g0, .inr (9, [.ref m_ys, .ref m_yk, .ref m_yo, .ref m_yt, .int b0, .ref m_yfa, .ref m_yfe, .int m_mL, .int m_mS, .int m_mM, .ref m_yro, .ref m_yhe, .ref m_ygr, .int m_mF, .int m_mC, .int m_mY, .ref m_yta, .int (nI (z)), .int (nI (m_mf)), .int (nI (m_mt)), .int m_mv, .int m_mw, .ref m_ywa, .ref m_ybi, .ref m_ysi, .ref m_ynu, .ref m_ymo])), (m_ys, .inl (cI, 449, .inl m_ms))] ++ tl) → va_S A s.heap H locs → lv_has ls 4 [(3, .int (nI i)), (2, .ref g0), (1, .ref h0), (0, .ref b)] → W p l e room_1 s m #[Value.ref b] below meth c H locs 82 4273 (lw_Z below #[Value.ref b] s) (F0 m 1483 ls [])) : W p l e room_1 s m #[Value.ref b] below meth c H locs 82 4273 (lw_Z below #[Value.ref b] s) (F0 m 1090 ls []) := by
  have hx := hF.1
  have hb := hF.2.1
  have hml := hF.2.2.1
  have hown := hF.2.2.2.1
  have hu : ∀ w ∈ wsU, w.before _ s = true := fun w h => hF.2.2.2.2 w (List.mem_cons_of_mem _ h)
  refine lv_aload_n hx hb dL_law_1090 rfl (lv_at hl 2 rfl) ?_
  refine xc_ViT (wr := [(g0, .inr (9, [.ref m_ys, .ref m_yk, .ref m_yo, .ref m_yt, .int b0, .ref m_yfa, .ref m_yfe, .int m_mL, .int m_mS, .int m_mM, .ref m_yro, .ref m_yhe, .ref m_ygr, .int m_mF, .int m_mC, .int m_mY, .ref m_yta, .int (nI (z)), .int (nI (m_mf)), .int (nI (m_mt)), .int m_mv, .int m_mw, .ref m_ywa, .ref m_ybi, .ref m_ysi, .ref m_ynu, .ref m_ymo])), (m_ys, .inl (cI, 449, .inl m_ms))]) hF (c_X8_hollow l D cI cJ cZ cS ta sa sv H.size h0 qh qk qd b0 qa qm qs qp ql qt qz qf Pa ae al au ao ar ak aw att ass fal fao hP0) kv_L_139 ⟨rfl, rfl, Nat.le_of_ble_eq_true rfl, Nat.le_of_ble_eq_true rfl⟩ ⟨Nat.le_of_ble_eq_true rfl, Nat.le_of_ble_eq_true rfl⟩ hK hN hZ hP hD hS hA [0, 1, 2, 3] [4, 5] rfl rfl rfl rfl (by decide) 0 rfl rfl rfl rfl hl.1 rfl (Nat.le_of_ble_eq_true rfl) dL_law_1091 (fun r_1 u_r_1 H locs hw_r_1 hP hD hS => ?_)
  have hP : va_P D vwCl ([(g0, .inr (9, [.ref m_ys, .ref m_yk, .ref m_yo, .ref m_yt, .int b0, .ref m_yfa, .ref m_yfe, .int m_mL, .int m_mS, .int m_mM, .ref m_yro, .ref m_yhe, .ref m_ygr, .int m_mF, .int m_mC, .int m_mY, .ref m_yta, .int (nI (z)), .int (nI (m_mf)), .int (nI (m_mt)), .int m_mv, .int m_mw, .ref m_ywa, .ref m_ybi, .ref m_ysi, .ref m_ynu, .ref m_ymo])), (m_ys, .inl (cI, 449, .inl m_ms)), (h0, .inr (8, [.ref qh, .ref qk, .ref qd, .int b0, .ref qa, .ref qm, .ref qs, .ref qp, .ref ql, .ref qt, .ref qz, .ref qf])), (qh, .inr (1, [.int (nI (Pa)), .ref ae, .ref al, .ref au, .ref ao, .ref ar, .ref ak, .ref aw, .ref att, .ref ass])), (al, .inl (cI, 100, .inl fal)), (ao, .inl (cI, 100, .inl fao))] ++ tl) H := hP
  have hD : va_D A ([(g0, .inr (9, [.ref m_ys, .ref m_yk, .ref m_yo, .ref m_yt, .int b0, .ref m_yfa, .ref m_yfe, .int m_mL, .int m_mS, .int m_mM, .ref m_yro, .ref m_yhe, .ref m_ygr, .int m_mF, .int m_mC, .int m_mY, .ref m_yta, .int (nI (z)), .int (nI (m_mf)), .int (nI (m_mt)), .int m_mv, .int m_mw, .ref m_ywa, .ref m_ybi, .ref m_ysi, .ref m_ynu, .ref m_ymo])), (m_ys, .inl (cI, 449, .inl m_ms)), (h0, .inr (8, [.ref qh, .ref qk, .ref qd, .int b0, .ref qa, .ref qm, .ref qs, .ref qp, .ref ql, .ref qt, .ref qz, .ref qf])), (qh, .inr (1, [.int (nI (Pa)), .ref ae, .ref al, .ref au, .ref ao, .ref ar, .ref ak, .ref aw, .ref att, .ref ass])), (al, .inl (cI, 100, .inl fal)), (ao, .inl (cI, 100, .inl fao))] ++ tl) := hD
  refine lv_pop hx hb dL_law_1094 rfl ?_
  refine lv_aload_n hx hb dL_law_1095 rfl (lv_at hl 1 rfl) ?_
  refine xc_VrT hF (c_X9_hollow l D cI cJ cZ cS ta sa sv H.size g0 m_ys m_yk m_yo m_yt b0 m_yfa m_yfe m_mL m_mS m_mM m_yro m_yhe m_ygr m_mF m_mC m_mY m_yta z m_mf m_mt m_mv m_mw m_ywa m_ybi m_ysi m_ynu m_ymo m_ms m_P m_Rn m_Wn m_hs0 m_hs1 m_hs2 m_hsS m_hsM m_hsp m_hsr m_hsw m_hsR) kv_L_142 ⟨rfl, rfl, Nat.le_of_ble_eq_true rfl, Nat.le_of_ble_eq_true rfl⟩ ⟨Nat.le_of_ble_eq_true rfl, Nat.le_of_ble_eq_true rfl⟩ hK hN hZ hP hD hS hA [0, 1] rfl rfl 0 rfl rfl rfl rfl hl.1 rfl (Nat.le_of_ble_eq_true rfl) dL_law_1096 (fun r_2 hw_r_2 => ?_)
  refine lv_pop hx hb dL_law_1099 rfl ?_
  refine lv_goto (tgt := 1483) hx hb dL_law_1100 (by decide) ?_
  exact kkx _ _ _  (xt_P hP [2, 3, 4, 5, 0, 1] rfl) (xt_D hD [2, 3, 4, 5, 0, 1] (by decide +kernel) rfl)  hS hl
set_option maxHeartbeats 4000000 in
set_option maxRecDepth 100000 in
theorem law_31 {p : Program} {e : Env} {s : State} {m : MethodId} {below : List Frame} {meth : Method} {c : Code} (l : Launch) (D : va_G) (cI cJ cZ cS : ClassId) (ta : Nat) (sa sv : Nat → Nat) {b L : Nat} {xs : Nat → Int32} {A : Nat → Prop} (hL : L ≤ 3072) (hF : CallFix p m c cL_law 4 s #[Value.ref b] (Cond.initialized RX8 :: wsU) RL) (hr : meth.sig.returnType = ret) (hlk : meth.locks = false) (hK : va_K D vwCl (xT cI cJ cZ cS) s) (hN : XN sa s) (hX : va_X b L xs s s.heap) (hbl : b < s.heap.size) (hA : ∀ q : Nat, s.heap.size ≤ q → A q) (hbA : ¬ A b) (hAs : ∀ q, A q → s.heap.size ≤ q) (hZ : ST ta sa sv A s s.heap) (h0 g0 i : Nat) (hi : i + 6 ≤ L) (qh : Nat) (qk : Nat) (qd : Nat) (b0 : Int32) (qa : Nat) (qm : Nat) (qs : Nat) (qp : Nat) (ql : Nat) (qt : Nat) (qz : Nat) (qf : Nat) (z : Nat) (tb : Nat) (tk : Int32) (s9 : Nat) (x9 : Nat) (v9 : Nat) (t9 : Int32) (by9 : Nat → Int32) (ff : Nat → Int32) (m_ys : Nat) (m_yk : Nat) (m_yo : Nat) (m_yt : Nat) (m_yfa : Nat) (m_yfe : Nat) (m_mL : Int32) (m_mS : Int32) (m_mM : Int32) (m_yro : Nat) (m_yhe : Nat) (m_ygr : Nat) (m_mF : Int32) (m_mC : Int32) (m_mY : Int32) (m_yta : Nat) (m_mf : Nat) (m_mt : Nat) (m_mv : Int32) (m_mw : Int32) (m_ywa : Nat) (m_ybi : Nat) (m_ysi : Nat) (m_ynu : Nat) (m_ymo : Nat) (m_mq : Nat → Int32) (m_tp : Nat → Int32) {tl : va_W} {H : Heap} {locs : List Loc} {ls : Array Slot} (hP : va_P D vwCl ([(h0, .inr (8, [.ref qh, .ref qk, .ref qd, .int b0, .ref qa, .ref qm, .ref qs, .ref qp, .ref ql, .ref qt, .ref qz, .ref qf])), (qt, .inr (7, [.int (nI (z)), .ref tb, .int tk, .int (nI (s9)), .int (nI (x9)), .int (nI (v9)), .int t9])), (tb, .inl (cI, 120, .inl by9)), (qf, .inl (cI, 7, .inl ff)), (g0, .inr (9, [.ref m_ys, .ref m_yk, .ref m_yo, .ref m_yt, .int b0, .ref m_yfa, .ref m_yfe, .int m_mL, .int m_mS, .int m_mM, .ref m_yro, .ref m_yhe, .ref m_ygr, .int m_mF, .int m_mC, .int m_mY, .ref m_yta, .int (nI (z)), .int (nI (m_mf)), .int (nI (m_mt)), .int m_mv, .int m_mw, .ref m_ywa, .ref m_ybi, .ref m_ysi, .ref m_ynu, .ref m_ymo])), (m_yt, .inl (cI, 7, .inl m_mq)), (m_yta, .inl (cI, 120, .inl m_tp))] ++ tl) H) (hD : va_D A ([(h0, .inr (8, [.ref qh, .ref qk, .ref qd, .int b0, .ref qa, .ref qm, .ref qs, .ref qp, .ref ql, .ref qt, .ref qz, .ref qf])), (qt, .inr (7, [.int (nI (z)), .ref tb, .int tk, .int (nI (s9)), .int (nI (x9)), .int (nI (v9)), .int t9])), (tb, .inl (cI, 120, .inl by9)), (qf, .inl (cI, 7, .inl ff)), (g0, .inr (9, [.ref m_ys, .ref m_yk, .ref m_yo, .ref m_yt, .int b0, .ref m_yfa, .ref m_yfe, .int m_mL, .int m_mS, .int m_mM, .ref m_yro, .ref m_yhe, .ref m_ygr, .int m_mF, .int m_mC, .int m_mY, .ref m_yta, .int (nI (z)), .int (nI (m_mf)), .int (nI (m_mt)), .int m_mv, .int m_mw, .ref m_ywa, .ref m_ybi, .ref m_ysi, .ref m_ynu, .ref m_ymo])), (m_yt, .inl (cI, 7, .inl m_mq)), (m_yta, .inl (cI, 120, .inl m_tp))] ++ tl)) (hz : z ≤ 120) (hs9 : s9 ≤ 120) (hx9 : x9 ≤ 120) (hv9 : v9 ≤ 10000) (hS : va_S A s.heap H locs) (hl : lv_has ls 4 [(3, .int (nI i)), (2, .ref g0), (1, .ref h0), (0, .ref b)]) (kkx : ∀ (H : Heap) (locs : List Loc) (ls : Array Slot) (z_n : Nat) (by9_n : Nat → Int32) (ff_n : Nat → Int32) (m_mq_n : Nat → Int32) (m_tp_n : Nat → Int32), va_P D vwCl ([(h0, .inr (8, [.ref qh, .ref qk, .ref qd, .int b0, .ref qa, .ref qm, .ref qs, .ref qp, .ref ql, .ref qt, .ref qz, .ref qf])), (qt, .inr (7, [.int (nI (z_n)), .ref tb, .int tk, .int (nI (s9)), .int (nI (x9)), .int (nI (v9)), .int t9])), (tb, .inl (cI, 120, .inl by9_n)), (qf, .inl (cI, 7, .inl ff_n)), (g0, .inr (9, [.ref m_ys, .ref m_yk, .ref m_yo, .ref m_yt, .int b0, .ref m_yfa, .ref m_yfe, .int m_mL, .int m_mS, .int m_mM, .ref m_yro, .ref m_yhe, .ref m_ygr, .int m_mF, .int m_mC, .int m_mY, .ref m_yta, .int (nI (z_n)), .int (nI (m_mf)), .int (nI (m_mt)), .int m_mv, .int m_mw, .ref m_ywa, .ref m_ybi, .ref m_ysi, .ref m_ynu, .ref m_ymo])), (m_yt, .inl (cI, 7, .inl m_mq_n)), (m_yta, .inl (cI, 120, .inl m_tp_n))] ++ tl) H → va_D A ([(h0, .inr (8, [.ref qh, .ref qk, .ref qd, .int b0, .ref qa, .ref qm, .ref qs, .ref qp, .ref ql, .ref qt, .ref qz, .ref qf])), (qt, .inr (7, [.int (nI (z_n)), .ref tb, .int tk, .int (nI (s9)), .int (nI (x9)), .int (nI (v9)), .int t9])), (tb, .inl (cI, 120, .inl by9_n)), (qf, .inl (cI, 7, .inl ff_n)), (g0, .inr (9, [.ref m_ys, .ref m_yk, .ref m_yo, .ref m_yt, .int b0, .ref m_yfa, .ref m_yfe, .int m_mL, .int m_mS, .int m_mM, .ref m_yro, .ref m_yhe, .ref m_ygr, .int m_mF, .int m_mC, .int m_mY, .ref m_yta, .int (nI (z_n)), .int (nI (m_mf)), .int (nI (m_mt)), .int m_mv, .int m_mw, .ref m_ywa, .ref m_ybi, .ref m_ysi, .ref m_ynu, .ref m_ymo])), (m_yt, .inl (cI, 7, .inl m_mq_n)), (m_yta, .inl (cI, 120, .inl m_tp_n))] ++ tl) → (z_n ≤ 120) → va_S A s.heap H locs → lv_has ls 4 [(3, .int (nI i)), (2, .ref g0), (1, .ref h0), (0, .ref b)] → W p l e room_1 s m #[Value.ref b] below meth c H locs 82 4273 (lw_Z below #[Value.ref b] s) (F0 m 1483 ls [])) : W p l e room_1 s m #[Value.ref b] below meth c H locs 82 4273 (lw_Z below #[Value.ref b] s) (F0 m 1103 ls []) := by
  have hx := hF.1
  have hb := hF.2.1
  have hml := hF.2.2.1
  have hown := hF.2.2.2.1
  have hu : ∀ w ∈ wsU, w.before _ s = true := fun w h => hF.2.2.2.2 w (List.mem_cons_of_mem _ h)
  refine lv_aload_n hx hb dL_law_1103 rfl (lv_at hl 2 rfl) ?_
  refine lv_aload_n hx hb dL_law_1104 rfl (lv_at hl 3 rfl) ?_
  refine lv_iload_n hx hb dL_law_1105 rfl (lv_at hl 0 rfl) ?_
  refine lv_iconst (v := 1) hx hb dL_law_1106 (by decide) ?_
  refine lv_iadd hx hb dL_law_1107 ?_
  refine xl_i (y := nI (i + 1)) (nI_add i 1) ?_
  refine va_sld hx hb hX hbl hbA hS (x_si (k := 1) (by decide) hi hL) dL_law_1108 ?_
  refine xl_i (y := xs (i + 1)) (congrArg xs (x_sc (k := 1) (by decide) hi hL)) ?_
  refine lv_aload_n hx hb dL_law_1109 rfl (lv_at hl 3 rfl) ?_
  refine lv_iload_n hx hb dL_law_1110 rfl (lv_at hl 0 rfl) ?_
  refine lv_iconst (v := 2) hx hb dL_law_1111 (by decide) ?_
  refine lv_iadd hx hb dL_law_1112 ?_
  refine xl_i (y := nI (i + 2)) (nI_add i 2) ?_
  refine va_sld hx hb hX hbl hbA hS (x_si (k := 2) (by decide) hi hL) dL_law_1113 ?_
  refine xl_i (y := xs (i + 2)) (congrArg xs (x_sc (k := 2) (by decide) hi hL)) ?_
  refine xc_ViT (wr := [(g0, .inr (9, [.ref m_ys, .ref m_yk, .ref m_yo, .ref m_yt, .int b0, .ref m_yfa, .ref m_yfe, .int m_mL, .int m_mS, .int m_mM, .ref m_yro, .ref m_yhe, .ref m_ygr, .int m_mF, .int m_mC, .int m_mY, .ref m_yta, .int (nI (z)), .int (nI (m_mf)), .int (nI (m_mt)), .int m_mv, .int m_mw, .ref m_ywa, .ref m_ybi, .ref m_ysi, .ref m_ynu, .ref m_ymo])), (m_yt, .inl (cI, 7, .inl m_mq)), (m_yta, .inl (cI, 120, .inl m_tp))]) hF (c_X8_feed l D cI cJ cZ cS ta sa sv H.size h0 qh qk qd b0 qa qm qs qp ql qt qz qf z tb tk s9 x9 v9 t9 by9 ff (xs (i + 1)) (xs (i + 2)) hz hs9 hx9 hv9) kv_L_143 ⟨rfl, rfl, Nat.le_of_ble_eq_true rfl, Nat.le_of_ble_eq_true rfl⟩ ⟨Nat.le_of_ble_eq_true rfl, Nat.le_of_ble_eq_true rfl⟩ hK hN hZ hP hD hS hA [0, 1, 2, 3] [4, 5, 6] rfl rfl rfl rfl (by decide) 0 rfl rfl rfl rfl hl.1 rfl (Nat.le_of_ble_eq_true rfl) dL_law_1114 (fun r_1 u_r_1 H locs hw_r_1 hP hD hS => ?_)
  obtain ⟨z2_2, y2_3, f2_4⟩ := u_r_1
  try dsimp only at hw_r_1
  obtain ⟨hw_r_1, i_5, i_6⟩ := hw_r_1
  subst i_5
  have hP : va_P D vwCl ([(g0, .inr (9, [.ref m_ys, .ref m_yk, .ref m_yo, .ref m_yt, .int b0, .ref m_yfa, .ref m_yfe, .int m_mL, .int m_mS, .int m_mM, .ref m_yro, .ref m_yhe, .ref m_ygr, .int m_mF, .int m_mC, .int m_mY, .ref m_yta, .int (nI (z)), .int (nI (m_mf)), .int (nI (m_mt)), .int m_mv, .int m_mw, .ref m_ywa, .ref m_ybi, .ref m_ysi, .ref m_ynu, .ref m_ymo])), (m_yt, .inl (cI, 7, .inl m_mq)), (m_yta, .inl (cI, 120, .inl m_tp)), (h0, .inr (8, [.ref qh, .ref qk, .ref qd, .int b0, .ref qa, .ref qm, .ref qs, .ref qp, .ref ql, .ref qt, .ref qz, .ref qf])), (qt, .inr (7, [.int (nI ((sp_fz z (xs (i + 2))))), .ref tb, .int tk, .int (nI (s9)), .int (nI (x9)), .int (nI (v9)), .int t9])), (tb, .inl (cI, 120, .inl y2_3)), (qf, .inl (cI, 7, .inl f2_4))] ++ tl) H := hP
  have hD : va_D A ([(g0, .inr (9, [.ref m_ys, .ref m_yk, .ref m_yo, .ref m_yt, .int b0, .ref m_yfa, .ref m_yfe, .int m_mL, .int m_mS, .int m_mM, .ref m_yro, .ref m_yhe, .ref m_ygr, .int m_mF, .int m_mC, .int m_mY, .ref m_yta, .int (nI (z)), .int (nI (m_mf)), .int (nI (m_mt)), .int m_mv, .int m_mw, .ref m_ywa, .ref m_ybi, .ref m_ysi, .ref m_ynu, .ref m_ymo])), (m_yt, .inl (cI, 7, .inl m_mq)), (m_yta, .inl (cI, 120, .inl m_tp)), (h0, .inr (8, [.ref qh, .ref qk, .ref qd, .int b0, .ref qa, .ref qm, .ref qs, .ref qp, .ref ql, .ref qt, .ref qz, .ref qf])), (qt, .inr (7, [.int (nI ((sp_fz z (xs (i + 2))))), .ref tb, .int tk, .int (nI (s9)), .int (nI (x9)), .int (nI (v9)), .int t9])), (tb, .inl (cI, 120, .inl y2_3)), (qf, .inl (cI, 7, .inl f2_4))] ++ tl) := hD
  subst hw_r_1
  refine lv_pop hx hb dL_law_1117 rfl ?_
  refine lv_aload_n hx hb dL_law_1118 rfl (lv_at hl 1 rfl) ?_
  refine lv_aload_n hx hb dL_law_1119 rfl (lv_at hl 3 rfl) ?_
  refine lv_iload_n hx hb dL_law_1120 rfl (lv_at hl 0 rfl) ?_
  refine lv_iconst (v := 1) hx hb dL_law_1121 (by decide) ?_
  refine lv_iadd hx hb dL_law_1122 ?_
  refine xl_i (y := nI (i + 1)) (nI_add i 1) ?_
  refine va_sld hx hb hX hbl hbA hS (x_si (k := 1) (by decide) hi hL) dL_law_1123 ?_
  refine xl_i (y := xs (i + 1)) (congrArg xs (x_sc (k := 1) (by decide) hi hL)) ?_
  refine lv_aload_n hx hb dL_law_1124 rfl (lv_at hl 3 rfl) ?_
  refine lv_iload_n hx hb dL_law_1125 rfl (lv_at hl 0 rfl) ?_
  refine lv_iconst (v := 2) hx hb dL_law_1126 (by decide) ?_
  refine lv_iadd hx hb dL_law_1127 ?_
  refine xl_i (y := nI (i + 2)) (nI_add i 2) ?_
  refine va_sld hx hb hX hbl hbA hS (x_si (k := 2) (by decide) hi hL) dL_law_1128 ?_
  refine xl_i (y := xs (i + 2)) (congrArg xs (x_sc (k := 2) (by decide) hi hL)) ?_
  refine xc_ViT (wr := [(h0, .inr (8, [.ref qh, .ref qk, .ref qd, .int b0, .ref qa, .ref qm, .ref qs, .ref qp, .ref ql, .ref qt, .ref qz, .ref qf])), (qt, .inr (7, [.int (nI ((sp_fz z (xs (i + 2))))), .ref tb, .int tk, .int (nI (s9)), .int (nI (x9)), .int (nI (v9)), .int t9])), (tb, .inl (cI, 120, .inl y2_3)), (qf, .inl (cI, 7, .inl f2_4))]) hF (c_X9_feed l D cI cJ cZ cS ta sa sv H.size g0 m_ys m_yk m_yo m_yt b0 m_yfa m_yfe m_mL m_mS m_mM m_yro m_yhe m_ygr m_mF m_mC m_mY m_yta z m_mf m_mt m_mv m_mw m_ywa m_ybi m_ysi m_ynu m_ymo m_tp m_mq (xs (i + 1)) (xs (i + 2)) hz) kv_L_146 ⟨rfl, rfl, Nat.le_of_ble_eq_true rfl, Nat.le_of_ble_eq_true rfl⟩ ⟨Nat.le_of_ble_eq_true rfl, Nat.le_of_ble_eq_true rfl⟩ hK hN hZ hP hD hS hA [0, 2, 1] [3, 4, 5, 6] rfl rfl rfl rfl (by decide) 0 rfl rfl rfl rfl hl.1 rfl (Nat.le_of_ble_eq_true rfl) dL_law_1129 (fun r_7 u_r_7 H locs hw_r_7 hP hD hS => ?_)
  obtain ⟨z2_8, tp2_9, mq2_10⟩ := u_r_7
  try dsimp only at hw_r_7
  obtain ⟨hw_r_7, i_11, i_12⟩ := hw_r_7
  subst i_11
  have hP : va_P D vwCl ([(h0, .inr (8, [.ref qh, .ref qk, .ref qd, .int b0, .ref qa, .ref qm, .ref qs, .ref qp, .ref ql, .ref qt, .ref qz, .ref qf])), (qt, .inr (7, [.int (nI ((sp_fz z (xs (i + 2))))), .ref tb, .int tk, .int (nI (s9)), .int (nI (x9)), .int (nI (v9)), .int t9])), (tb, .inl (cI, 120, .inl y2_3)), (qf, .inl (cI, 7, .inl f2_4)), (g0, .inr (9, [.ref m_ys, .ref m_yk, .ref m_yo, .ref m_yt, .int b0, .ref m_yfa, .ref m_yfe, .int m_mL, .int m_mS, .int m_mM, .ref m_yro, .ref m_yhe, .ref m_ygr, .int m_mF, .int m_mC, .int m_mY, .ref m_yta, .int (nI ((sp_fz z (xs (i + 2))))), .int (nI (m_mf)), .int (nI (m_mt)), .int m_mv, .int m_mw, .ref m_ywa, .ref m_ybi, .ref m_ysi, .ref m_ynu, .ref m_ymo])), (m_yta, .inl (cI, 120, .inl tp2_9)), (m_yt, .inl (cI, 7, .inl mq2_10))] ++ tl) H := hP
  have hD : va_D A ([(h0, .inr (8, [.ref qh, .ref qk, .ref qd, .int b0, .ref qa, .ref qm, .ref qs, .ref qp, .ref ql, .ref qt, .ref qz, .ref qf])), (qt, .inr (7, [.int (nI ((sp_fz z (xs (i + 2))))), .ref tb, .int tk, .int (nI (s9)), .int (nI (x9)), .int (nI (v9)), .int t9])), (tb, .inl (cI, 120, .inl y2_3)), (qf, .inl (cI, 7, .inl f2_4)), (g0, .inr (9, [.ref m_ys, .ref m_yk, .ref m_yo, .ref m_yt, .int b0, .ref m_yfa, .ref m_yfe, .int m_mL, .int m_mS, .int m_mM, .ref m_yro, .ref m_yhe, .ref m_ygr, .int m_mF, .int m_mC, .int m_mY, .ref m_yta, .int (nI ((sp_fz z (xs (i + 2))))), .int (nI (m_mf)), .int (nI (m_mt)), .int m_mv, .int m_mw, .ref m_ywa, .ref m_ybi, .ref m_ysi, .ref m_ynu, .ref m_ymo])), (m_yta, .inl (cI, 120, .inl tp2_9)), (m_yt, .inl (cI, 7, .inl mq2_10))] ++ tl) := hD
  subst hw_r_7
  refine lv_pop hx hb dL_law_1132 rfl ?_
  refine lv_goto (tgt := 1483) hx hb dL_law_1133 (by decide) ?_
  exact kkx _ _ _ (sp_fz z (xs (i + 2))) y2_3 f2_4 mq2_10 tp2_9 (xt_P hP [0, 1, 2, 3, 4, 6, 5] rfl) (xt_D hD [0, 1, 2, 3, 4, 6, 5] (by decide +kernel) rfl) i_12 hS hl
set_option maxHeartbeats 4000000 in
set_option maxRecDepth 100000 in
theorem law_32 {p : Program} {e : Env} {s : State} {m : MethodId} {below : List Frame} {meth : Method} {c : Code} (l : Launch) (D : va_G) (cI cJ cZ cS : ClassId) (ta : Nat) (sa sv : Nat → Nat) {b L : Nat} {xs : Nat → Int32} {A : Nat → Prop} (hL : L ≤ 3072) (hF : CallFix p m c cL_law 4 s #[Value.ref b] (Cond.initialized RX8 :: wsU) RL) (hr : meth.sig.returnType = ret) (hlk : meth.locks = false) (hK : va_K D vwCl (xT cI cJ cZ cS) s) (hN : XN sa s) (hX : va_X b L xs s s.heap) (hbl : b < s.heap.size) (hA : ∀ q : Nat, s.heap.size ≤ q → A q) (hbA : ¬ A b) (hAs : ∀ q, A q → s.heap.size ≤ q) (hZ : ST ta sa sv A s s.heap) (h0 g0 i : Nat) (hi : i + 6 ≤ L) (qh : Nat) (qk : Nat) (qd : Nat) (b0 : Int32) (qa : Nat) (qm : Nat) (qs : Nat) (qp : Nat) (ql : Nat) (qt : Nat) (qz : Nat) (qf : Nat) (z : Nat) (tb : Nat) (tk : Int32) (s9 : Nat) (x9 : Nat) (v9 : Nat) (t9 : Int32) (m_ys : Nat) (m_yk : Nat) (m_yo : Nat) (m_yt : Nat) (m_yfa : Nat) (m_yfe : Nat) (m_mL : Int32) (m_mS : Int32) (m_mM : Int32) (m_yro : Nat) (m_yhe : Nat) (m_ygr : Nat) (m_mF : Int32) (m_mC : Int32) (m_mY : Int32) (m_yta : Nat) (m_mf : Nat) (m_mt : Nat) (m_mv : Int32) (m_mw : Int32) (m_ywa : Nat) (m_ybi : Nat) (m_ysi : Nat) (m_ynu : Nat) (m_ymo : Nat) {tl : va_W} {H : Heap} {locs : List Loc} {ls : Array Slot} (hP : va_P D vwCl ([(h0, .inr (8, [.ref qh, .ref qk, .ref qd, .int b0, .ref qa, .ref qm, .ref qs, .ref qp, .ref ql, .ref qt, .ref qz, .ref qf])), (qt, .inr (7, [.int (nI (z)), .ref tb, .int tk, .int (nI (s9)), .int (nI (x9)), .int (nI (v9)), .int t9])), (g0, .inr (9, [.ref m_ys, .ref m_yk, .ref m_yo, .ref m_yt, .int b0, .ref m_yfa, .ref m_yfe, .int m_mL, .int m_mS, .int m_mM, .ref m_yro, .ref m_yhe, .ref m_ygr, .int m_mF, .int m_mC, .int m_mY, .ref m_yta, .int (nI (z)), .int (nI (m_mf)), .int (nI (m_mt)), .int m_mv, .int m_mw, .ref m_ywa, .ref m_ybi, .ref m_ysi, .ref m_ynu, .ref m_ymo]))] ++ tl) H) (hD : va_D A ([(h0, .inr (8, [.ref qh, .ref qk, .ref qd, .int b0, .ref qa, .ref qm, .ref qs, .ref qp, .ref ql, .ref qt, .ref qz, .ref qf])), (qt, .inr (7, [.int (nI (z)), .ref tb, .int tk, .int (nI (s9)), .int (nI (x9)), .int (nI (v9)), .int t9])), (g0, .inr (9, [.ref m_ys, .ref m_yk, .ref m_yo, .ref m_yt, .int b0, .ref m_yfa, .ref m_yfe, .int m_mL, .int m_mS, .int m_mM, .ref m_yro, .ref m_yhe, .ref m_ygr, .int m_mF, .int m_mC, .int m_mY, .ref m_yta, .int (nI (z)), .int (nI (m_mf)), .int (nI (m_mt)), .int m_mv, .int m_mw, .ref m_ywa, .ref m_ybi, .ref m_ysi, .ref m_ynu, .ref m_ymo]))] ++ tl)) (hz : z ≤ 120) (hs9 : s9 ≤ 120) (hx9 : x9 ≤ 120) (hv9 : v9 ≤ 10000) (hS : va_S A s.heap H locs) (hl : lv_has ls 4 [(3, .int (nI i)), (2, .ref g0), (1, .ref h0), (0, .ref b)]) (kkx : ∀ (H : Heap) (locs : List Loc) (ls : Array Slot) (z_n : Nat), va_P D vwCl ([(h0, .inr (8, [.ref qh, .ref qk, .ref qd, .int b0, .ref qa, .ref qm, .ref qs, .ref qp, .ref ql, .ref qt, .ref qz, .ref qf])), (qt, .inr (7, [.int (nI (z_n)), .ref tb, .int tk, .int (nI (s9)), .int (nI (x9)), .int (nI (v9)), .int t9])), (g0, .inr (9, [.ref m_ys, .ref m_yk, .ref m_yo, .ref m_yt, .int b0, .ref m_yfa, .ref m_yfe, .int m_mL, .int m_mS, .int m_mM, .ref m_yro, .ref m_yhe, .ref m_ygr, .int m_mF, .int m_mC, .int m_mY, .ref m_yta, .int (nI (z_n)), .int (nI (m_mf)), .int (nI (m_mt)), .int m_mv, .int m_mw, .ref m_ywa, .ref m_ybi, .ref m_ysi, .ref m_ynu, .ref m_ymo]))] ++ tl) H → va_D A ([(h0, .inr (8, [.ref qh, .ref qk, .ref qd, .int b0, .ref qa, .ref qm, .ref qs, .ref qp, .ref ql, .ref qt, .ref qz, .ref qf])), (qt, .inr (7, [.int (nI (z_n)), .ref tb, .int tk, .int (nI (s9)), .int (nI (x9)), .int (nI (v9)), .int t9])), (g0, .inr (9, [.ref m_ys, .ref m_yk, .ref m_yo, .ref m_yt, .int b0, .ref m_yfa, .ref m_yfe, .int m_mL, .int m_mS, .int m_mM, .ref m_yro, .ref m_yhe, .ref m_ygr, .int m_mF, .int m_mC, .int m_mY, .ref m_yta, .int (nI (z_n)), .int (nI (m_mf)), .int (nI (m_mt)), .int m_mv, .int m_mw, .ref m_ywa, .ref m_ybi, .ref m_ysi, .ref m_ynu, .ref m_ymo]))] ++ tl) → (z_n ≤ 120) → va_S A s.heap H locs → lv_has ls 4 [(3, .int (nI i)), (2, .ref g0), (1, .ref h0), (0, .ref b)] → W p l e room_1 s m #[Value.ref b] below meth c H locs 82 4273 (lw_Z below #[Value.ref b] s) (F0 m 1483 ls [])) : W p l e room_1 s m #[Value.ref b] below meth c H locs 82 4273 (lw_Z below #[Value.ref b] s) (F0 m 1136 ls []) := by
  have hx := hF.1
  have hb := hF.2.1
  have hml := hF.2.2.1
  have hown := hF.2.2.2.1
  have hu : ∀ w ∈ wsU, w.before _ s = true := fun w h => hF.2.2.2.2 w (List.mem_cons_of_mem _ h)
  refine lv_aload_n hx hb dL_law_1136 rfl (lv_at hl 2 rfl) ?_
  refine xc_ViT (wr := [(g0, .inr (9, [.ref m_ys, .ref m_yk, .ref m_yo, .ref m_yt, .int b0, .ref m_yfa, .ref m_yfe, .int m_mL, .int m_mS, .int m_mM, .ref m_yro, .ref m_yhe, .ref m_ygr, .int m_mF, .int m_mC, .int m_mY, .ref m_yta, .int (nI (z)), .int (nI (m_mf)), .int (nI (m_mt)), .int m_mv, .int m_mw, .ref m_ywa, .ref m_ybi, .ref m_ysi, .ref m_ynu, .ref m_ymo]))]) hF (c_X8_wipe l D cI cJ cZ cS ta sa sv H.size h0 qh qk qd b0 qa qm qs qp ql qt qz qf z tb tk s9 x9 v9 t9 hz hs9 hx9 hv9) kv_L_147 ⟨rfl, rfl, Nat.le_of_ble_eq_true rfl, Nat.le_of_ble_eq_true rfl⟩ ⟨Nat.le_of_ble_eq_true rfl, Nat.le_of_ble_eq_true rfl⟩ hK hN hZ hP hD hS hA [0, 1] [2] rfl rfl rfl rfl (by decide) 0 rfl rfl rfl rfl hl.1 rfl (Nat.le_of_ble_eq_true rfl) dL_law_1137 (fun r_1 u_r_1 H locs hw_r_1 hP hD hS => ?_)
  have hP : va_P D vwCl ([(g0, .inr (9, [.ref m_ys, .ref m_yk, .ref m_yo, .ref m_yt, .int b0, .ref m_yfa, .ref m_yfe, .int m_mL, .int m_mS, .int m_mM, .ref m_yro, .ref m_yhe, .ref m_ygr, .int m_mF, .int m_mC, .int m_mY, .ref m_yta, .int (nI (z)), .int (nI (m_mf)), .int (nI (m_mt)), .int m_mv, .int m_mw, .ref m_ywa, .ref m_ybi, .ref m_ysi, .ref m_ynu, .ref m_ymo])), (h0, .inr (8, [.ref qh, .ref qk, .ref qd, .int b0, .ref qa, .ref qm, .ref qs, .ref qp, .ref ql, .ref qt, .ref qz, .ref qf])), (qt, .inr (7, [.int 0, .ref tb, .int tk, .int (nI (s9)), .int (nI (x9)), .int (nI (v9)), .int t9]))] ++ tl) H := hP
  have hD : va_D A ([(g0, .inr (9, [.ref m_ys, .ref m_yk, .ref m_yo, .ref m_yt, .int b0, .ref m_yfa, .ref m_yfe, .int m_mL, .int m_mS, .int m_mM, .ref m_yro, .ref m_yhe, .ref m_ygr, .int m_mF, .int m_mC, .int m_mY, .ref m_yta, .int (nI (z)), .int (nI (m_mf)), .int (nI (m_mt)), .int m_mv, .int m_mw, .ref m_ywa, .ref m_ybi, .ref m_ysi, .ref m_ynu, .ref m_ymo])), (h0, .inr (8, [.ref qh, .ref qk, .ref qd, .int b0, .ref qa, .ref qm, .ref qs, .ref qp, .ref ql, .ref qt, .ref qz, .ref qf])), (qt, .inr (7, [.int 0, .ref tb, .int tk, .int (nI (s9)), .int (nI (x9)), .int (nI (v9)), .int t9]))] ++ tl) := hD
  subst hw_r_1
  refine lv_pop hx hb dL_law_1140 rfl ?_
  refine lv_aload_n hx hb dL_law_1141 rfl (lv_at hl 1 rfl) ?_
  refine xc_ViT (wr := [(h0, .inr (8, [.ref qh, .ref qk, .ref qd, .int b0, .ref qa, .ref qm, .ref qs, .ref qp, .ref ql, .ref qt, .ref qz, .ref qf])), (qt, .inr (7, [.int 0, .ref tb, .int tk, .int (nI (s9)), .int (nI (x9)), .int (nI (v9)), .int t9]))]) hF (c_X9_wipe l D cI cJ cZ cS ta sa sv H.size g0 m_ys m_yk m_yo m_yt b0 m_yfa m_yfe m_mL m_mS m_mM m_yro m_yhe m_ygr m_mF m_mC m_mY m_yta z m_mf m_mt m_mv m_mw m_ywa m_ybi m_ysi m_ynu m_ymo hz) kv_L_150 ⟨rfl, rfl, Nat.le_of_ble_eq_true rfl, Nat.le_of_ble_eq_true rfl⟩ ⟨Nat.le_of_ble_eq_true rfl, Nat.le_of_ble_eq_true rfl⟩ hK hN hZ hP hD hS hA [0] [1, 2] rfl rfl rfl rfl (by decide) 0 rfl rfl rfl rfl hl.1 rfl (Nat.le_of_ble_eq_true rfl) dL_law_1142 (fun r_2 u_r_2 H locs hw_r_2 hP hD hS => ?_)
  have hP : va_P D vwCl ([(h0, .inr (8, [.ref qh, .ref qk, .ref qd, .int b0, .ref qa, .ref qm, .ref qs, .ref qp, .ref ql, .ref qt, .ref qz, .ref qf])), (qt, .inr (7, [.int 0, .ref tb, .int tk, .int (nI (s9)), .int (nI (x9)), .int (nI (v9)), .int t9])), (g0, .inr (9, [.ref m_ys, .ref m_yk, .ref m_yo, .ref m_yt, .int b0, .ref m_yfa, .ref m_yfe, .int m_mL, .int m_mS, .int m_mM, .ref m_yro, .ref m_yhe, .ref m_ygr, .int m_mF, .int m_mC, .int m_mY, .ref m_yta, .int 0, .int (nI (m_mf)), .int (nI (m_mt)), .int m_mv, .int m_mw, .ref m_ywa, .ref m_ybi, .ref m_ysi, .ref m_ynu, .ref m_ymo]))] ++ tl) H := hP
  have hD : va_D A ([(h0, .inr (8, [.ref qh, .ref qk, .ref qd, .int b0, .ref qa, .ref qm, .ref qs, .ref qp, .ref ql, .ref qt, .ref qz, .ref qf])), (qt, .inr (7, [.int 0, .ref tb, .int tk, .int (nI (s9)), .int (nI (x9)), .int (nI (v9)), .int t9])), (g0, .inr (9, [.ref m_ys, .ref m_yk, .ref m_yo, .ref m_yt, .int b0, .ref m_yfa, .ref m_yfe, .int m_mL, .int m_mS, .int m_mM, .ref m_yro, .ref m_yhe, .ref m_ygr, .int m_mF, .int m_mC, .int m_mY, .ref m_yta, .int 0, .int (nI (m_mf)), .int (nI (m_mt)), .int m_mv, .int m_mw, .ref m_ywa, .ref m_ybi, .ref m_ysi, .ref m_ynu, .ref m_ymo]))] ++ tl) := hD
  subst hw_r_2
  refine lv_pop hx hb dL_law_1145 rfl ?_
  refine lv_goto (tgt := 1483) hx hb dL_law_1146 (by decide) ?_
  exact kkx _ _ _ 0 (xt_P hP [0, 1, 2] rfl) (xt_D hD [0, 1, 2] (by decide +kernel) rfl) (by omega) hS hl
set_option maxHeartbeats 4000000 in
set_option maxRecDepth 100000 in
theorem law_33 {p : Program} {e : Env} {s : State} {m : MethodId} {below : List Frame} {meth : Method} {c : Code} (l : Launch) (D : va_G) (cI cJ cZ cS : ClassId) (ta : Nat) (sa sv : Nat → Nat) {b L : Nat} {xs : Nat → Int32} {A : Nat → Prop} (hL : L ≤ 3072) (hF : CallFix p m c cL_law 4 s #[Value.ref b] (Cond.initialized RX8 :: wsU) RL) (hr : meth.sig.returnType = ret) (hlk : meth.locks = false) (hK : va_K D vwCl (xT cI cJ cZ cS) s) (hN : XN sa s) (hX : va_X b L xs s s.heap) (hbl : b < s.heap.size) (hA : ∀ q : Nat, s.heap.size ≤ q → A q) (hbA : ¬ A b) (hAs : ∀ q, A q → s.heap.size ≤ q) (hZ : ST ta sa sv A s s.heap) (h0 g0 i : Nat) (hi : i + 6 ≤ L) (qh : Nat) (qk : Nat) (qd : Nat) (b0 : Int32) (qa : Nat) (qm : Nat) (qs : Nat) (qp : Nat) (ql : Nat) (qt : Nat) (qz : Nat) (qf : Nat) (Pa : Nat) (ae : Nat) (al : Nat) (au : Nat) (ao : Nat) (ar : Nat) (ak : Nat) (aw : Nat) (att : Nat) (ass : Nat) (fae : Nat → Int32) (fal : Nat → Int32) (fau : Nat → Int32) (fao : Nat → Int32) (Ra : Nat) (aRn : Nat) (aRp : Nat) (farn : Nat → Int32) (farp : Nat → Int32) (fak : Nat → Int32) (Wa : Nat) (aWn : Nat) (aWp : Nat) (fawn : Nat → Int32) (fawp : Nat → Int32) (fat : Nat → Int32) (fas : Nat → Int32) (Pv : Nat) (ve : Nat) (vl : Nat) (vu : Nat) (vo : Nat) (vr : Nat) (vk : Nat) (vw : Nat) (vtt : Nat) (vss : Nat) (fve : Nat → Int32) (fvl : Nat → Int32) (fvu : Nat → Int32) (fvo : Nat → Int32) (Rv : Nat) (vRn : Nat) (vRp : Nat) (fvrn : Nat → Int32) (fvrp : Nat → Int32) (fvk : Nat → Int32) (Wv : Nat) (vWn : Nat) (vWp : Nat) (fvwn : Nat → Int32) (fvwp : Nat → Int32) (fvt : Nat → Int32) (fvs : Nat → Int32) (z : Nat) (tb : Nat) (tk : Int32) (s9 : Nat) (x9 : Nat) (v9 : Nat) (t9 : Int32) (by9 : Nat → Int32) (m_ys : Nat) (m_yk : Nat) (m_yo : Nat) (m_yt : Nat) (m_yfa : Nat) (m_yfe : Nat) (m_mL : Int32) (m_mS : Int32) (m_mM : Int32) (m_yro : Nat) (m_yhe : Nat) (m_ygr : Nat) (m_mF : Int32) (m_mC : Int32) (m_mY : Int32) (m_yta : Nat) (m_mf : Nat) (m_mt : Nat) (m_mv : Int32) (m_mw : Int32) (m_ywa : Nat) (m_ybi : Nat) (m_ysi : Nat) (m_ynu : Nat) (m_ymo : Nat) (m_ms : Nat → Int32) (m_oo : Nat → Int32) (m_tp : Nat → Int32) (m_wa : Nat → Int32) (m_P : Nat) (m_Rn : Nat) (m_Wn : Nat) {tl : va_W} {H : Heap} {locs : List Loc} {ls : Array Slot} (hP : va_P D vwCl ([(h0, .inr (8, [.ref qh, .ref qk, .ref qd, .int b0, .ref qa, .ref qm, .ref qs, .ref qp, .ref ql, .ref qt, .ref qz, .ref qf])), (qh, .inr (1, [.int (nI (Pa)), .ref ae, .ref al, .ref au, .ref ao, .ref ar, .ref ak, .ref aw, .ref att, .ref ass])), (ae, .inl (cI, 10, .inl fae)), (al, .inl (cI, 100, .inl fal)), (au, .inl (cI, 100, .inl fau)), (ao, .inl (cI, 100, .inl fao)), (ar, .inr (3, [.int (nI (Ra)), .ref aRn, .ref aRp])), (aRn, .inl (cI, 8, .inl farn)), (aRp, .inl (cI, 48, .inl farp)), (ak, .inl (cI, 8, .inl fak)), (aw, .inr (3, [.int (nI (Wa)), .ref aWn, .ref aWp])), (aWn, .inl (cI, 8, .inl fawn)), (aWp, .inl (cI, 48, .inl fawp)), (att, .inl (cI, 8, .inl fat)), (ass, .inl (cI, 8, .inl fas)), (qd, .inr (1, [.int (nI (Pv)), .ref ve, .ref vl, .ref vu, .ref vo, .ref vr, .ref vk, .ref vw, .ref vtt, .ref vss])), (ve, .inl (cI, 10, .inl fve)), (vl, .inl (cI, 100, .inl fvl)), (vu, .inl (cI, 100, .inl fvu)), (vo, .inl (cI, 100, .inl fvo)), (vr, .inr (3, [.int (nI (Rv)), .ref vRn, .ref vRp])), (vRn, .inl (cI, 8, .inl fvrn)), (vRp, .inl (cI, 48, .inl fvrp)), (vk, .inl (cI, 8, .inl fvk)), (vw, .inr (3, [.int (nI (Wv)), .ref vWn, .ref vWp])), (vWn, .inl (cI, 8, .inl fvwn)), (vWp, .inl (cI, 48, .inl fvwp)), (vtt, .inl (cI, 8, .inl fvt)), (vss, .inl (cI, 8, .inl fvs)), (qt, .inr (7, [.int (nI (z)), .ref tb, .int tk, .int (nI (s9)), .int (nI (x9)), .int (nI (v9)), .int t9])), (tb, .inl (cI, 120, .inl by9)), (g0, .inr (9, [.ref m_ys, .ref m_yk, .ref m_yo, .ref m_yt, .int b0, .ref m_yfa, .ref m_yfe, .int m_mL, .int m_mS, .int m_mM, .ref m_yro, .ref m_yhe, .ref m_ygr, .int m_mF, .int m_mC, .int m_mY, .ref m_yta, .int (nI (z)), .int (nI (m_mf)), .int (nI (m_mt)), .int m_mv, .int m_mw, .ref m_ywa, .ref m_ybi, .ref m_ysi, .ref m_ynu, .ref m_ymo])), (m_ys, .inl (cI, 449, .inl m_ms)), (m_yo, .inl (cI, 449, .inl m_oo)), (m_yta, .inl (cI, 120, .inl m_tp)), (m_ywa, .inl (cI, 6, .inl m_wa))] ++ tl) H) (hD : va_D A ([(h0, .inr (8, [.ref qh, .ref qk, .ref qd, .int b0, .ref qa, .ref qm, .ref qs, .ref qp, .ref ql, .ref qt, .ref qz, .ref qf])), (qh, .inr (1, [.int (nI (Pa)), .ref ae, .ref al, .ref au, .ref ao, .ref ar, .ref ak, .ref aw, .ref att, .ref ass])), (ae, .inl (cI, 10, .inl fae)), (al, .inl (cI, 100, .inl fal)), (au, .inl (cI, 100, .inl fau)), (ao, .inl (cI, 100, .inl fao)), (ar, .inr (3, [.int (nI (Ra)), .ref aRn, .ref aRp])), (aRn, .inl (cI, 8, .inl farn)), (aRp, .inl (cI, 48, .inl farp)), (ak, .inl (cI, 8, .inl fak)), (aw, .inr (3, [.int (nI (Wa)), .ref aWn, .ref aWp])), (aWn, .inl (cI, 8, .inl fawn)), (aWp, .inl (cI, 48, .inl fawp)), (att, .inl (cI, 8, .inl fat)), (ass, .inl (cI, 8, .inl fas)), (qd, .inr (1, [.int (nI (Pv)), .ref ve, .ref vl, .ref vu, .ref vo, .ref vr, .ref vk, .ref vw, .ref vtt, .ref vss])), (ve, .inl (cI, 10, .inl fve)), (vl, .inl (cI, 100, .inl fvl)), (vu, .inl (cI, 100, .inl fvu)), (vo, .inl (cI, 100, .inl fvo)), (vr, .inr (3, [.int (nI (Rv)), .ref vRn, .ref vRp])), (vRn, .inl (cI, 8, .inl fvrn)), (vRp, .inl (cI, 48, .inl fvrp)), (vk, .inl (cI, 8, .inl fvk)), (vw, .inr (3, [.int (nI (Wv)), .ref vWn, .ref vWp])), (vWn, .inl (cI, 8, .inl fvwn)), (vWp, .inl (cI, 48, .inl fvwp)), (vtt, .inl (cI, 8, .inl fvt)), (vss, .inl (cI, 8, .inl fvs)), (qt, .inr (7, [.int (nI (z)), .ref tb, .int tk, .int (nI (s9)), .int (nI (x9)), .int (nI (v9)), .int t9])), (tb, .inl (cI, 120, .inl by9)), (g0, .inr (9, [.ref m_ys, .ref m_yk, .ref m_yo, .ref m_yt, .int b0, .ref m_yfa, .ref m_yfe, .int m_mL, .int m_mS, .int m_mM, .ref m_yro, .ref m_yhe, .ref m_ygr, .int m_mF, .int m_mC, .int m_mY, .ref m_yta, .int (nI (z)), .int (nI (m_mf)), .int (nI (m_mt)), .int m_mv, .int m_mw, .ref m_ywa, .ref m_ybi, .ref m_ysi, .ref m_ynu, .ref m_ymo])), (m_ys, .inl (cI, 449, .inl m_ms)), (m_yo, .inl (cI, 449, .inl m_oo)), (m_yta, .inl (cI, 120, .inl m_tp)), (m_ywa, .inl (cI, 6, .inl m_wa))] ++ tl)) (hP0 : Pa ≤ 10) (hR : Ra ≤ 8) (hLLr : LL Ra farn) (hWa : Wa ≤ 8) (hLLw : LL Wa fawn) (hz : z ≤ 120) (hs9 : s9 ≤ 120) (hx9 : x9 ≤ 120) (hv9 : v9 ≤ 10000) (harn : BA 8 7 farn) (harp : BA 48 10 farp) (hawn : BA 8 7 fawn) (hawp : BA 48 10 fawp) (hvrn : BA 8 7 fvrn) (hvrp : BA 48 10 fvrp) (hvwn : BA 8 7 fvwn) (hvwp : BA 48 10 fvwp) (m_hs0 : m_ms 0 = nI m_P) (m_hs1 : m_ms 1 = nI m_Rn) (m_hs2 : m_ms 2 = nI m_Wn) (m_hsS : SI m_ms) (m_hsM : MI m_ms) (m_hsp : m_P ≤ 10) (m_hsr : m_Rn ≤ 8) (m_hsw : m_Wn ≤ 8) (m_hsR : RI m_Rn m_ms) (hS : va_S A s.heap H locs) (hl : lv_has ls 4 [(3, .int (nI i)), (2, .ref g0), (1, .ref h0), (0, .ref b)]) (kkx : ∀ (H : Heap) (locs : List Loc) (ls : Array Slot) (Pa_n : Nat) (fae_n : Nat → Int32) (fal_n : Nat → Int32) (fau_n : Nat → Int32) (fao_n : Nat → Int32) (Ra_n : Nat) (farn_n : Nat → Int32) (farp_n : Nat → Int32) (fak_n : Nat → Int32) (Wa_n : Nat) (fawn_n : Nat → Int32) (fawp_n : Nat → Int32) (fat_n : Nat → Int32) (fas_n : Nat → Int32) (Pv_n : Nat) (fve_n : Nat → Int32) (fvl_n : Nat → Int32) (fvu_n : Nat → Int32) (fvo_n : Nat → Int32) (Rv_n : Nat) (fvrn_n : Nat → Int32) (fvrp_n : Nat → Int32) (fvk_n : Nat → Int32) (Wv_n : Nat) (fvwn_n : Nat → Int32) (fvwp_n : Nat → Int32) (fvt_n : Nat → Int32) (fvs_n : Nat → Int32) (z_n : Nat) (tk_n : Int32) (s9_n : Nat) (x9_n : Nat) (v9_n : Nat) (t9_n : Int32) (m_mf_n : Nat) (m_mt_n : Nat) (m_mv_n : Int32) (m_mw_n : Int32) (m_ms_n : Nat → Int32) (m_oo_n : Nat → Int32) (m_wa_n : Nat → Int32) (m_P_n : Nat) (m_Rn_n : Nat) (m_Wn_n : Nat), va_P D vwCl ([(h0, .inr (8, [.ref qh, .ref qk, .ref qd, .int b0, .ref qa, .ref qm, .ref qs, .ref qp, .ref ql, .ref qt, .ref qz, .ref qf])), (qh, .inr (1, [.int (nI (Pa_n)), .ref ae, .ref al, .ref au, .ref ao, .ref ar, .ref ak, .ref aw, .ref att, .ref ass])), (ae, .inl (cI, 10, .inl fae_n)), (al, .inl (cI, 100, .inl fal_n)), (au, .inl (cI, 100, .inl fau_n)), (ao, .inl (cI, 100, .inl fao_n)), (ar, .inr (3, [.int (nI (Ra_n)), .ref aRn, .ref aRp])), (aRn, .inl (cI, 8, .inl farn_n)), (aRp, .inl (cI, 48, .inl farp_n)), (ak, .inl (cI, 8, .inl fak_n)), (aw, .inr (3, [.int (nI (Wa_n)), .ref aWn, .ref aWp])), (aWn, .inl (cI, 8, .inl fawn_n)), (aWp, .inl (cI, 48, .inl fawp_n)), (att, .inl (cI, 8, .inl fat_n)), (ass, .inl (cI, 8, .inl fas_n)), (qd, .inr (1, [.int (nI (Pv_n)), .ref ve, .ref vl, .ref vu, .ref vo, .ref vr, .ref vk, .ref vw, .ref vtt, .ref vss])), (ve, .inl (cI, 10, .inl fve_n)), (vl, .inl (cI, 100, .inl fvl_n)), (vu, .inl (cI, 100, .inl fvu_n)), (vo, .inl (cI, 100, .inl fvo_n)), (vr, .inr (3, [.int (nI (Rv_n)), .ref vRn, .ref vRp])), (vRn, .inl (cI, 8, .inl fvrn_n)), (vRp, .inl (cI, 48, .inl fvrp_n)), (vk, .inl (cI, 8, .inl fvk_n)), (vw, .inr (3, [.int (nI (Wv_n)), .ref vWn, .ref vWp])), (vWn, .inl (cI, 8, .inl fvwn_n)), (vWp, .inl (cI, 48, .inl fvwp_n)), (vtt, .inl (cI, 8, .inl fvt_n)), (vss, .inl (cI, 8, .inl fvs_n)), (qt, .inr (7, [.int (nI (z_n)), .ref tb, .int tk_n, .int (nI (s9_n)), .int (nI (x9_n)), .int (nI (v9_n)), .int t9_n])), (tb, .inl (cI, 120, .inl by9)), (g0, .inr (9, [.ref m_ys, .ref m_yk, .ref m_yo, .ref m_yt, .int b0, .ref m_yfa, .ref m_yfe, .int m_mL, .int m_mS, .int m_mM, .ref m_yro, .ref m_yhe, .ref m_ygr, .int m_mF, .int m_mC, .int m_mY, .ref m_yta, .int (nI (z_n)), .int (nI (m_mf_n)), .int (nI (m_mt_n)), .int m_mv_n, .int m_mw_n, .ref m_ywa, .ref m_ybi, .ref m_ysi, .ref m_ynu, .ref m_ymo])), (m_ys, .inl (cI, 449, .inl m_ms_n)), (m_yo, .inl (cI, 449, .inl m_oo_n)), (m_yta, .inl (cI, 120, .inl m_tp)), (m_ywa, .inl (cI, 6, .inl m_wa_n))] ++ tl) H → va_D A ([(h0, .inr (8, [.ref qh, .ref qk, .ref qd, .int b0, .ref qa, .ref qm, .ref qs, .ref qp, .ref ql, .ref qt, .ref qz, .ref qf])), (qh, .inr (1, [.int (nI (Pa_n)), .ref ae, .ref al, .ref au, .ref ao, .ref ar, .ref ak, .ref aw, .ref att, .ref ass])), (ae, .inl (cI, 10, .inl fae_n)), (al, .inl (cI, 100, .inl fal_n)), (au, .inl (cI, 100, .inl fau_n)), (ao, .inl (cI, 100, .inl fao_n)), (ar, .inr (3, [.int (nI (Ra_n)), .ref aRn, .ref aRp])), (aRn, .inl (cI, 8, .inl farn_n)), (aRp, .inl (cI, 48, .inl farp_n)), (ak, .inl (cI, 8, .inl fak_n)), (aw, .inr (3, [.int (nI (Wa_n)), .ref aWn, .ref aWp])), (aWn, .inl (cI, 8, .inl fawn_n)), (aWp, .inl (cI, 48, .inl fawp_n)), (att, .inl (cI, 8, .inl fat_n)), (ass, .inl (cI, 8, .inl fas_n)), (qd, .inr (1, [.int (nI (Pv_n)), .ref ve, .ref vl, .ref vu, .ref vo, .ref vr, .ref vk, .ref vw, .ref vtt, .ref vss])), (ve, .inl (cI, 10, .inl fve_n)), (vl, .inl (cI, 100, .inl fvl_n)), (vu, .inl (cI, 100, .inl fvu_n)), (vo, .inl (cI, 100, .inl fvo_n)), (vr, .inr (3, [.int (nI (Rv_n)), .ref vRn, .ref vRp])), (vRn, .inl (cI, 8, .inl fvrn_n)), (vRp, .inl (cI, 48, .inl fvrp_n)), (vk, .inl (cI, 8, .inl fvk_n)), (vw, .inr (3, [.int (nI (Wv_n)), .ref vWn, .ref vWp])), (vWn, .inl (cI, 8, .inl fvwn_n)), (vWp, .inl (cI, 48, .inl fvwp_n)), (vtt, .inl (cI, 8, .inl fvt_n)), (vss, .inl (cI, 8, .inl fvs_n)), (qt, .inr (7, [.int (nI (z_n)), .ref tb, .int tk_n, .int (nI (s9_n)), .int (nI (x9_n)), .int (nI (v9_n)), .int t9_n])), (tb, .inl (cI, 120, .inl by9)), (g0, .inr (9, [.ref m_ys, .ref m_yk, .ref m_yo, .ref m_yt, .int b0, .ref m_yfa, .ref m_yfe, .int m_mL, .int m_mS, .int m_mM, .ref m_yro, .ref m_yhe, .ref m_ygr, .int m_mF, .int m_mC, .int m_mY, .ref m_yta, .int (nI (z_n)), .int (nI (m_mf_n)), .int (nI (m_mt_n)), .int m_mv_n, .int m_mw_n, .ref m_ywa, .ref m_ybi, .ref m_ysi, .ref m_ynu, .ref m_ymo])), (m_ys, .inl (cI, 449, .inl m_ms_n)), (m_yo, .inl (cI, 449, .inl m_oo_n)), (m_yta, .inl (cI, 120, .inl m_tp)), (m_ywa, .inl (cI, 6, .inl m_wa_n))] ++ tl) → (Pa_n ≤ 10) → (Ra_n ≤ 8) → (LL Ra_n farn_n) → (Wa_n ≤ 8) → (LL Wa_n fawn_n) → (z_n ≤ 120) → (s9_n ≤ 120) → (x9_n ≤ 120) → (v9_n ≤ 10000) → (BA 8 7 farn_n) → (BA 48 10 farp_n) → (BA 8 7 fawn_n) → (BA 48 10 fawp_n) → (BA 8 7 fvrn_n) → (BA 48 10 fvrp_n) → (BA 8 7 fvwn_n) → (BA 48 10 fvwp_n) → (m_ms_n 0 = nI m_P_n) → (m_ms_n 1 = nI m_Rn_n) → (m_ms_n 2 = nI m_Wn_n) → (SI m_ms_n) → (MI m_ms_n) → (m_P_n ≤ 10) → (m_Rn_n ≤ 8) → (m_Wn_n ≤ 8) → (RI m_Rn_n m_ms_n) → va_S A s.heap H locs → lv_has ls 4 [(3, .int (nI i)), (2, .ref g0), (1, .ref h0), (0, .ref b)] → W p l e room_1 s m #[Value.ref b] below meth c H locs 82 4273 (lw_Z below #[Value.ref b] s) (F0 m 1483 ls [])) : W p l e room_1 s m #[Value.ref b] below meth c H locs 82 4273 (lw_Z below #[Value.ref b] s) (F0 m 1149 ls []) := by
  have hx := hF.1
  have hb := hF.2.1
  have hml := hF.2.2.1
  have hown := hF.2.2.2.1
  have hu : ∀ w ∈ wsU, w.before _ s = true := fun w h => hF.2.2.2.2 w (List.mem_cons_of_mem _ h)
  refine lv_aload_n hx hb dL_law_1149 rfl (lv_at hl 2 rfl) ?_
  refine xc_ViT (wr := [(g0, .inr (9, [.ref m_ys, .ref m_yk, .ref m_yo, .ref m_yt, .int b0, .ref m_yfa, .ref m_yfe, .int m_mL, .int m_mS, .int m_mM, .ref m_yro, .ref m_yhe, .ref m_ygr, .int m_mF, .int m_mC, .int m_mY, .ref m_yta, .int (nI (z)), .int (nI (m_mf)), .int (nI (m_mt)), .int m_mv, .int m_mw, .ref m_ywa, .ref m_ybi, .ref m_ysi, .ref m_ynu, .ref m_ymo])), (m_ys, .inl (cI, 449, .inl m_ms)), (m_yo, .inl (cI, 449, .inl m_oo)), (m_yta, .inl (cI, 120, .inl m_tp)), (m_ywa, .inl (cI, 6, .inl m_wa))]) hF (c_X8_land l D cI cJ cZ cS ta sa sv H.size h0 qh qk qd b0 qa qm qs qp ql qt qz qf Pa ae al au ao ar ak aw att ass fae fal fau fao Ra aRn aRp farn farp fak Wa aWn aWp fawn fawp fat fas Pv ve vl vu vo vr vk vw vtt vss fve fvl fvu fvo Rv vRn vRp fvrn fvrp fvk Wv vWn vWp fvwn fvwp fvt fvs z tb tk s9 x9 v9 t9 by9 hP0 hR hLLr hWa hLLw hz hs9 hx9 hv9 harn harp hawn hawp hvrn hvrp hvwn hvwp) kv_L_151 ⟨rfl, rfl, Nat.le_of_ble_eq_true rfl, Nat.le_of_ble_eq_true rfl⟩ ⟨Nat.le_of_ble_eq_true rfl, Nat.le_of_ble_eq_true rfl⟩ hK hN hZ hP hD hS hA [0, 1, 2, 3, 4, 5, 6, 7, 8, 9, 10, 11, 12, 13, 14, 15, 16, 17, 18, 19, 20, 21, 22, 23, 24, 25, 26, 27, 28, 29, 30] [31, 32, 33, 34, 35] rfl rfl rfl rfl (by decide) 0 rfl rfl rfl rfl hl.1 rfl (Nat.le_of_ble_eq_true rfl) dL_law_1150 (fun r_1 u_r_1 H locs hw_r_1 hP hD hS => ?_)
  obtain ⟨P2_2, xe_3, xl_4, xu_5, xo_6, R2_7, xrn_8, xrp_9, xk_10, W2_11, xwn_12, xwp_13, xt_14, xs_15, P3_16, ye_17, yl_18, yu_19, yo_20, R3_21, yrn_22, yrp_23, yk_24, W3_25, ywn_26, ywp_27, yt_28, ys_29, tk2_30, s2_31, x2_32, v2_33, t2_34⟩ := u_r_1
  try dsimp only at hw_r_1
  obtain ⟨hw_r_1, i_35, i_36, i_37, i_38, i_39, i_40, i_41, i_42, i_43, i_44, i_45, i_46, i_47, i_48, i_49, i_50, i_51, i_52, i_53⟩ := hw_r_1
  have hP : va_P D vwCl ([(g0, .inr (9, [.ref m_ys, .ref m_yk, .ref m_yo, .ref m_yt, .int b0, .ref m_yfa, .ref m_yfe, .int m_mL, .int m_mS, .int m_mM, .ref m_yro, .ref m_yhe, .ref m_ygr, .int m_mF, .int m_mC, .int m_mY, .ref m_yta, .int (nI (z)), .int (nI (m_mf)), .int (nI (m_mt)), .int m_mv, .int m_mw, .ref m_ywa, .ref m_ybi, .ref m_ysi, .ref m_ynu, .ref m_ymo])), (m_ys, .inl (cI, 449, .inl m_ms)), (m_yo, .inl (cI, 449, .inl m_oo)), (m_yta, .inl (cI, 120, .inl m_tp)), (m_ywa, .inl (cI, 6, .inl m_wa)), (h0, .inr (8, [.ref qh, .ref qk, .ref qd, .int b0, .ref qa, .ref qm, .ref qs, .ref qp, .ref ql, .ref qt, .ref qz, .ref qf])), (qh, .inr (1, [.int (nI (P2_2)), .ref ae, .ref al, .ref au, .ref ao, .ref ar, .ref ak, .ref aw, .ref att, .ref ass])), (ae, .inl (cI, 10, .inl xe_3)), (al, .inl (cI, 100, .inl xl_4)), (au, .inl (cI, 100, .inl xu_5)), (ao, .inl (cI, 100, .inl xo_6)), (ar, .inr (3, [.int (nI (R2_7)), .ref aRn, .ref aRp])), (aRn, .inl (cI, 8, .inl xrn_8)), (aRp, .inl (cI, 48, .inl xrp_9)), (ak, .inl (cI, 8, .inl xk_10)), (aw, .inr (3, [.int (nI (W2_11)), .ref aWn, .ref aWp])), (aWn, .inl (cI, 8, .inl xwn_12)), (aWp, .inl (cI, 48, .inl xwp_13)), (att, .inl (cI, 8, .inl xt_14)), (ass, .inl (cI, 8, .inl xs_15)), (qd, .inr (1, [.int (nI (P3_16)), .ref ve, .ref vl, .ref vu, .ref vo, .ref vr, .ref vk, .ref vw, .ref vtt, .ref vss])), (ve, .inl (cI, 10, .inl ye_17)), (vl, .inl (cI, 100, .inl yl_18)), (vu, .inl (cI, 100, .inl yu_19)), (vo, .inl (cI, 100, .inl yo_20)), (vr, .inr (3, [.int (nI (R3_21)), .ref vRn, .ref vRp])), (vRn, .inl (cI, 8, .inl yrn_22)), (vRp, .inl (cI, 48, .inl yrp_23)), (vk, .inl (cI, 8, .inl yk_24)), (vw, .inr (3, [.int (nI (W3_25)), .ref vWn, .ref vWp])), (vWn, .inl (cI, 8, .inl ywn_26)), (vWp, .inl (cI, 48, .inl ywp_27)), (vtt, .inl (cI, 8, .inl yt_28)), (vss, .inl (cI, 8, .inl ys_29)), (qt, .inr (7, [.int 0, .ref tb, .int tk2_30, .int (nI (s2_31)), .int (nI (x2_32)), .int (nI (v2_33)), .int t2_34])), (tb, .inl (cI, 120, .inl by9))] ++ tl) H := hP
  have hD : va_D A ([(g0, .inr (9, [.ref m_ys, .ref m_yk, .ref m_yo, .ref m_yt, .int b0, .ref m_yfa, .ref m_yfe, .int m_mL, .int m_mS, .int m_mM, .ref m_yro, .ref m_yhe, .ref m_ygr, .int m_mF, .int m_mC, .int m_mY, .ref m_yta, .int (nI (z)), .int (nI (m_mf)), .int (nI (m_mt)), .int m_mv, .int m_mw, .ref m_ywa, .ref m_ybi, .ref m_ysi, .ref m_ynu, .ref m_ymo])), (m_ys, .inl (cI, 449, .inl m_ms)), (m_yo, .inl (cI, 449, .inl m_oo)), (m_yta, .inl (cI, 120, .inl m_tp)), (m_ywa, .inl (cI, 6, .inl m_wa)), (h0, .inr (8, [.ref qh, .ref qk, .ref qd, .int b0, .ref qa, .ref qm, .ref qs, .ref qp, .ref ql, .ref qt, .ref qz, .ref qf])), (qh, .inr (1, [.int (nI (P2_2)), .ref ae, .ref al, .ref au, .ref ao, .ref ar, .ref ak, .ref aw, .ref att, .ref ass])), (ae, .inl (cI, 10, .inl xe_3)), (al, .inl (cI, 100, .inl xl_4)), (au, .inl (cI, 100, .inl xu_5)), (ao, .inl (cI, 100, .inl xo_6)), (ar, .inr (3, [.int (nI (R2_7)), .ref aRn, .ref aRp])), (aRn, .inl (cI, 8, .inl xrn_8)), (aRp, .inl (cI, 48, .inl xrp_9)), (ak, .inl (cI, 8, .inl xk_10)), (aw, .inr (3, [.int (nI (W2_11)), .ref aWn, .ref aWp])), (aWn, .inl (cI, 8, .inl xwn_12)), (aWp, .inl (cI, 48, .inl xwp_13)), (att, .inl (cI, 8, .inl xt_14)), (ass, .inl (cI, 8, .inl xs_15)), (qd, .inr (1, [.int (nI (P3_16)), .ref ve, .ref vl, .ref vu, .ref vo, .ref vr, .ref vk, .ref vw, .ref vtt, .ref vss])), (ve, .inl (cI, 10, .inl ye_17)), (vl, .inl (cI, 100, .inl yl_18)), (vu, .inl (cI, 100, .inl yu_19)), (vo, .inl (cI, 100, .inl yo_20)), (vr, .inr (3, [.int (nI (R3_21)), .ref vRn, .ref vRp])), (vRn, .inl (cI, 8, .inl yrn_22)), (vRp, .inl (cI, 48, .inl yrp_23)), (vk, .inl (cI, 8, .inl yk_24)), (vw, .inr (3, [.int (nI (W3_25)), .ref vWn, .ref vWp])), (vWn, .inl (cI, 8, .inl ywn_26)), (vWp, .inl (cI, 48, .inl ywp_27)), (vtt, .inl (cI, 8, .inl yt_28)), (vss, .inl (cI, 8, .inl ys_29)), (qt, .inr (7, [.int 0, .ref tb, .int tk2_30, .int (nI (s2_31)), .int (nI (x2_32)), .int (nI (v2_33)), .int t2_34])), (tb, .inl (cI, 120, .inl by9))] ++ tl) := hD
  refine lv_pop hx hb dL_law_1153 rfl ?_
  refine lv_aload_n hx hb dL_law_1154 rfl (lv_at hl 1 rfl) ?_
  refine xc_ViT (wr := [(h0, .inr (8, [.ref qh, .ref qk, .ref qd, .int b0, .ref qa, .ref qm, .ref qs, .ref qp, .ref ql, .ref qt, .ref qz, .ref qf])), (qh, .inr (1, [.int (nI (P2_2)), .ref ae, .ref al, .ref au, .ref ao, .ref ar, .ref ak, .ref aw, .ref att, .ref ass])), (ae, .inl (cI, 10, .inl xe_3)), (al, .inl (cI, 100, .inl xl_4)), (au, .inl (cI, 100, .inl xu_5)), (ao, .inl (cI, 100, .inl xo_6)), (ar, .inr (3, [.int (nI (R2_7)), .ref aRn, .ref aRp])), (aRn, .inl (cI, 8, .inl xrn_8)), (aRp, .inl (cI, 48, .inl xrp_9)), (ak, .inl (cI, 8, .inl xk_10)), (aw, .inr (3, [.int (nI (W2_11)), .ref aWn, .ref aWp])), (aWn, .inl (cI, 8, .inl xwn_12)), (aWp, .inl (cI, 48, .inl xwp_13)), (att, .inl (cI, 8, .inl xt_14)), (ass, .inl (cI, 8, .inl xs_15)), (qd, .inr (1, [.int (nI (P3_16)), .ref ve, .ref vl, .ref vu, .ref vo, .ref vr, .ref vk, .ref vw, .ref vtt, .ref vss])), (ve, .inl (cI, 10, .inl ye_17)), (vl, .inl (cI, 100, .inl yl_18)), (vu, .inl (cI, 100, .inl yu_19)), (vo, .inl (cI, 100, .inl yo_20)), (vr, .inr (3, [.int (nI (R3_21)), .ref vRn, .ref vRp])), (vRn, .inl (cI, 8, .inl yrn_22)), (vRp, .inl (cI, 48, .inl yrp_23)), (vk, .inl (cI, 8, .inl yk_24)), (vw, .inr (3, [.int (nI (W3_25)), .ref vWn, .ref vWp])), (vWn, .inl (cI, 8, .inl ywn_26)), (vWp, .inl (cI, 48, .inl ywp_27)), (vtt, .inl (cI, 8, .inl yt_28)), (vss, .inl (cI, 8, .inl ys_29)), (qt, .inr (7, [.int 0, .ref tb, .int tk2_30, .int (nI (s2_31)), .int (nI (x2_32)), .int (nI (v2_33)), .int t2_34])), (tb, .inl (cI, 120, .inl by9))]) hF (c_X9_land l D cI cJ cZ cS ta sa sv H.size g0 m_ys m_yk m_yo m_yt b0 m_yfa m_yfe m_mL m_mS m_mM m_yro m_yhe m_ygr m_mF m_mC m_mY m_yta z m_mf m_mt m_mv m_mw m_ywa m_ybi m_ysi m_ynu m_ymo m_ms m_oo m_tp m_wa m_P m_Rn m_Wn hz m_hs0 m_hs1 m_hs2 m_hsS m_hsM m_hsp m_hsr m_hsw m_hsR) kv_L_154 ⟨rfl, rfl, Nat.le_of_ble_eq_true rfl, Nat.le_of_ble_eq_true rfl⟩ ⟨Nat.le_of_ble_eq_true rfl, Nat.le_of_ble_eq_true rfl⟩ hK hN hZ hP hD hS hA [0, 1, 2, 3, 4] [5, 6, 7, 8, 9, 10, 11, 12, 13, 14, 15, 16, 17, 18, 19, 20, 21, 22, 23, 24, 25, 26, 27, 28, 29, 30, 31, 32, 33, 34, 35] rfl rfl rfl rfl (by decide) 0 rfl rfl rfl rfl hl.1 rfl (Nat.le_of_ble_eq_true rfl) dL_law_1155 (fun r_54 u_r_54 H locs hw_r_54 hP hD hS => ?_)
  obtain ⟨f2_55, t2_56, v2_57, w2_58, ms2_59, oo2_60, wa2_61, P2_62, R2_63, W2_64⟩ := u_r_54
  try dsimp only at hw_r_54
  obtain ⟨hw_r_54, i_65, i_66, i_67, i_68, i_69, i_70, i_71, i_72, i_73⟩ := hw_r_54
  have hP : va_P D vwCl ([(h0, .inr (8, [.ref qh, .ref qk, .ref qd, .int b0, .ref qa, .ref qm, .ref qs, .ref qp, .ref ql, .ref qt, .ref qz, .ref qf])), (qh, .inr (1, [.int (nI (P2_2)), .ref ae, .ref al, .ref au, .ref ao, .ref ar, .ref ak, .ref aw, .ref att, .ref ass])), (ae, .inl (cI, 10, .inl xe_3)), (al, .inl (cI, 100, .inl xl_4)), (au, .inl (cI, 100, .inl xu_5)), (ao, .inl (cI, 100, .inl xo_6)), (ar, .inr (3, [.int (nI (R2_7)), .ref aRn, .ref aRp])), (aRn, .inl (cI, 8, .inl xrn_8)), (aRp, .inl (cI, 48, .inl xrp_9)), (ak, .inl (cI, 8, .inl xk_10)), (aw, .inr (3, [.int (nI (W2_11)), .ref aWn, .ref aWp])), (aWn, .inl (cI, 8, .inl xwn_12)), (aWp, .inl (cI, 48, .inl xwp_13)), (att, .inl (cI, 8, .inl xt_14)), (ass, .inl (cI, 8, .inl xs_15)), (qd, .inr (1, [.int (nI (P3_16)), .ref ve, .ref vl, .ref vu, .ref vo, .ref vr, .ref vk, .ref vw, .ref vtt, .ref vss])), (ve, .inl (cI, 10, .inl ye_17)), (vl, .inl (cI, 100, .inl yl_18)), (vu, .inl (cI, 100, .inl yu_19)), (vo, .inl (cI, 100, .inl yo_20)), (vr, .inr (3, [.int (nI (R3_21)), .ref vRn, .ref vRp])), (vRn, .inl (cI, 8, .inl yrn_22)), (vRp, .inl (cI, 48, .inl yrp_23)), (vk, .inl (cI, 8, .inl yk_24)), (vw, .inr (3, [.int (nI (W3_25)), .ref vWn, .ref vWp])), (vWn, .inl (cI, 8, .inl ywn_26)), (vWp, .inl (cI, 48, .inl ywp_27)), (vtt, .inl (cI, 8, .inl yt_28)), (vss, .inl (cI, 8, .inl ys_29)), (qt, .inr (7, [.int 0, .ref tb, .int tk2_30, .int (nI (s2_31)), .int (nI (x2_32)), .int (nI (v2_33)), .int t2_34])), (tb, .inl (cI, 120, .inl by9)), (g0, .inr (9, [.ref m_ys, .ref m_yk, .ref m_yo, .ref m_yt, .int b0, .ref m_yfa, .ref m_yfe, .int m_mL, .int m_mS, .int m_mM, .ref m_yro, .ref m_yhe, .ref m_ygr, .int m_mF, .int m_mC, .int m_mY, .ref m_yta, .int 0, .int (nI (f2_55)), .int (nI (t2_56)), .int v2_57, .int w2_58, .ref m_ywa, .ref m_ybi, .ref m_ysi, .ref m_ynu, .ref m_ymo])), (m_ys, .inl (cI, 449, .inl ms2_59)), (m_yo, .inl (cI, 449, .inl oo2_60)), (m_yta, .inl (cI, 120, .inl m_tp)), (m_ywa, .inl (cI, 6, .inl wa2_61))] ++ tl) H := hP
  have hD : va_D A ([(h0, .inr (8, [.ref qh, .ref qk, .ref qd, .int b0, .ref qa, .ref qm, .ref qs, .ref qp, .ref ql, .ref qt, .ref qz, .ref qf])), (qh, .inr (1, [.int (nI (P2_2)), .ref ae, .ref al, .ref au, .ref ao, .ref ar, .ref ak, .ref aw, .ref att, .ref ass])), (ae, .inl (cI, 10, .inl xe_3)), (al, .inl (cI, 100, .inl xl_4)), (au, .inl (cI, 100, .inl xu_5)), (ao, .inl (cI, 100, .inl xo_6)), (ar, .inr (3, [.int (nI (R2_7)), .ref aRn, .ref aRp])), (aRn, .inl (cI, 8, .inl xrn_8)), (aRp, .inl (cI, 48, .inl xrp_9)), (ak, .inl (cI, 8, .inl xk_10)), (aw, .inr (3, [.int (nI (W2_11)), .ref aWn, .ref aWp])), (aWn, .inl (cI, 8, .inl xwn_12)), (aWp, .inl (cI, 48, .inl xwp_13)), (att, .inl (cI, 8, .inl xt_14)), (ass, .inl (cI, 8, .inl xs_15)), (qd, .inr (1, [.int (nI (P3_16)), .ref ve, .ref vl, .ref vu, .ref vo, .ref vr, .ref vk, .ref vw, .ref vtt, .ref vss])), (ve, .inl (cI, 10, .inl ye_17)), (vl, .inl (cI, 100, .inl yl_18)), (vu, .inl (cI, 100, .inl yu_19)), (vo, .inl (cI, 100, .inl yo_20)), (vr, .inr (3, [.int (nI (R3_21)), .ref vRn, .ref vRp])), (vRn, .inl (cI, 8, .inl yrn_22)), (vRp, .inl (cI, 48, .inl yrp_23)), (vk, .inl (cI, 8, .inl yk_24)), (vw, .inr (3, [.int (nI (W3_25)), .ref vWn, .ref vWp])), (vWn, .inl (cI, 8, .inl ywn_26)), (vWp, .inl (cI, 48, .inl ywp_27)), (vtt, .inl (cI, 8, .inl yt_28)), (vss, .inl (cI, 8, .inl ys_29)), (qt, .inr (7, [.int 0, .ref tb, .int tk2_30, .int (nI (s2_31)), .int (nI (x2_32)), .int (nI (v2_33)), .int t2_34])), (tb, .inl (cI, 120, .inl by9)), (g0, .inr (9, [.ref m_ys, .ref m_yk, .ref m_yo, .ref m_yt, .int b0, .ref m_yfa, .ref m_yfe, .int m_mL, .int m_mS, .int m_mM, .ref m_yro, .ref m_yhe, .ref m_ygr, .int m_mF, .int m_mC, .int m_mY, .ref m_yta, .int 0, .int (nI (f2_55)), .int (nI (t2_56)), .int v2_57, .int w2_58, .ref m_ywa, .ref m_ybi, .ref m_ysi, .ref m_ynu, .ref m_ymo])), (m_ys, .inl (cI, 449, .inl ms2_59)), (m_yo, .inl (cI, 449, .inl oo2_60)), (m_yta, .inl (cI, 120, .inl m_tp)), (m_ywa, .inl (cI, 6, .inl wa2_61))] ++ tl) := hD
  refine lv_pop hx hb dL_law_1158 rfl ?_
  refine lv_goto (tgt := 1483) hx hb dL_law_1159 (by decide) ?_
  exact kkx _ _ _ P2_2 xe_3 xl_4 xu_5 xo_6 R2_7 xrn_8 xrp_9 xk_10 W2_11 xwn_12 xwp_13 xt_14 xs_15 P3_16 ye_17 yl_18 yu_19 yo_20 R3_21 yrn_22 yrp_23 yk_24 W3_25 ywn_26 ywp_27 yt_28 ys_29 0 tk2_30 s2_31 x2_32 v2_33 t2_34 f2_55 t2_56 v2_57 w2_58 ms2_59 oo2_60 wa2_61 P2_62 R2_63 W2_64 (xt_P hP [0, 1, 2, 3, 4, 5, 6, 7, 8, 9, 10, 11, 12, 13, 14, 15, 16, 17, 18, 19, 20, 21, 22, 23, 24, 25, 26, 27, 28, 29, 30, 31, 32, 33, 34, 35] rfl) (xt_D hD [0, 1, 2, 3, 4, 5, 6, 7, 8, 9, 10, 11, 12, 13, 14, 15, 16, 17, 18, 19, 20, 21, 22, 23, 24, 25, 26, 27, 28, 29, 30, 31, 32, 33, 34, 35] (by decide +kernel) rfl) i_38 i_39 i_41 i_40 i_42 (by omega) i_35 i_36 i_37 i_46 i_47 i_48 i_49 i_50 i_51 i_52 i_53 i_65 i_66 i_67 i_68 i_69 i_70 i_71 i_72 i_73 hS hl
set_option maxHeartbeats 4000000 in
set_option maxRecDepth 100000 in
theorem law_34 {p : Program} {e : Env} {s : State} {m : MethodId} {below : List Frame} {meth : Method} {c : Code} (l : Launch) (D : va_G) (cI cJ cZ cS : ClassId) (ta : Nat) (sa sv : Nat → Nat) {b L : Nat} {xs : Nat → Int32} {A : Nat → Prop} (hL : L ≤ 3072) (hF : CallFix p m c cL_law 4 s #[Value.ref b] (Cond.initialized RX8 :: wsU) RL) (hr : meth.sig.returnType = ret) (hlk : meth.locks = false) (hK : va_K D vwCl (xT cI cJ cZ cS) s) (hN : XN sa s) (hX : va_X b L xs s s.heap) (hbl : b < s.heap.size) (hA : ∀ q : Nat, s.heap.size ≤ q → A q) (hbA : ¬ A b) (hAs : ∀ q, A q → s.heap.size ≤ q) (hZ : ST ta sa sv A s s.heap) (h0 g0 i : Nat) (hi : i + 6 ≤ L) (qh : Nat) (qk : Nat) (qd : Nat) (b0 : Int32) (qa : Nat) (qm : Nat) (qs : Nat) (qp : Nat) (ql : Nat) (qt : Nat) (qz : Nat) (qf : Nat) (s0 : Nat) (s1 : Nat) (s2 : Nat) (s3 : Nat) (bt0 : Int32) (sz0 : Nat) (sn0 : Nat) (bt1 : Int32) (sz1 : Nat) (sn1 : Nat) (bt2 : Int32) (sz2 : Nat) (sn2 : Nat) (bt3 : Int32) (sz3 : Nat) (sn3 : Nat) (nu0 : Nat → Int64) (nu1 : Nat → Int64) (nu2 : Nat → Int64) (nu3 : Nat → Int64) (ff : Nat → Int32) (m_ys : Nat) (m_yk : Nat) (m_yo : Nat) (m_yt : Nat) (m_yfa : Nat) (m_yfe : Nat) (m_mL : Int32) (m_mS : Int32) (m_mM : Int32) (m_yro : Nat) (m_yhe : Nat) (m_ygr : Nat) (m_mF : Int32) (m_mC : Int32) (m_mY : Int32) (m_yta : Nat) (z : Nat) (m_mf : Nat) (m_mt : Nat) (m_mv : Int32) (m_mw : Int32) (m_ywa : Nat) (m_ybi : Nat) (m_ysi : Nat) (m_ynu : Nat) (m_ymo : Nat) (m_mq : Nat → Int32) (m_bi : Nat → Int32) (m_sq : Nat → Int32) (m_nb : Nat → Int64) {tl : va_W} {H : Heap} {locs : List Loc} {ls : Array Slot} (hP : va_P D vwCl ([(h0, .inr (8, [.ref qh, .ref qk, .ref qd, .int b0, .ref qa, .ref qm, .ref qs, .ref qp, .ref ql, .ref qt, .ref qz, .ref qf])), (qz, .inl (cS, 4, .inr (.inr (.inr (.inr (xSh s0 s1 s2 s3)))))), (s0, .inr (4, [.int bt0, .int (nI (sz0)), .ref sn0])), (s1, .inr (4, [.int bt1, .int (nI (sz1)), .ref sn1])), (s2, .inr (4, [.int bt2, .int (nI (sz2)), .ref sn2])), (s3, .inr (4, [.int bt3, .int (nI (sz3)), .ref sn3])), (sn0, .inl (cJ, 40, .inr (.inl nu0))), (sn1, .inl (cJ, 40, .inr (.inl nu1))), (sn2, .inl (cJ, 40, .inr (.inl nu2))), (sn3, .inl (cJ, 40, .inr (.inl nu3))), (qf, .inl (cI, 7, .inl ff)), (g0, .inr (9, [.ref m_ys, .ref m_yk, .ref m_yo, .ref m_yt, .int b0, .ref m_yfa, .ref m_yfe, .int m_mL, .int m_mS, .int m_mM, .ref m_yro, .ref m_yhe, .ref m_ygr, .int m_mF, .int m_mC, .int m_mY, .ref m_yta, .int (nI (z)), .int (nI (m_mf)), .int (nI (m_mt)), .int m_mv, .int m_mw, .ref m_ywa, .ref m_ybi, .ref m_ysi, .ref m_ynu, .ref m_ymo])), (m_yt, .inl (cI, 7, .inl m_mq)), (m_ybi, .inl (cI, 4, .inl m_bi)), (m_ysi, .inl (cI, 4, .inl m_sq)), (m_ynu, .inl (cJ, 160, .inr (.inl m_nb)))] ++ tl) H) (hD : va_D A ([(h0, .inr (8, [.ref qh, .ref qk, .ref qd, .int b0, .ref qa, .ref qm, .ref qs, .ref qp, .ref ql, .ref qt, .ref qz, .ref qf])), (qz, .inl (cS, 4, .inr (.inr (.inr (.inr (xSh s0 s1 s2 s3)))))), (s0, .inr (4, [.int bt0, .int (nI (sz0)), .ref sn0])), (s1, .inr (4, [.int bt1, .int (nI (sz1)), .ref sn1])), (s2, .inr (4, [.int bt2, .int (nI (sz2)), .ref sn2])), (s3, .inr (4, [.int bt3, .int (nI (sz3)), .ref sn3])), (sn0, .inl (cJ, 40, .inr (.inl nu0))), (sn1, .inl (cJ, 40, .inr (.inl nu1))), (sn2, .inl (cJ, 40, .inr (.inl nu2))), (sn3, .inl (cJ, 40, .inr (.inl nu3))), (qf, .inl (cI, 7, .inl ff)), (g0, .inr (9, [.ref m_ys, .ref m_yk, .ref m_yo, .ref m_yt, .int b0, .ref m_yfa, .ref m_yfe, .int m_mL, .int m_mS, .int m_mM, .ref m_yro, .ref m_yhe, .ref m_ygr, .int m_mF, .int m_mC, .int m_mY, .ref m_yta, .int (nI (z)), .int (nI (m_mf)), .int (nI (m_mt)), .int m_mv, .int m_mw, .ref m_ywa, .ref m_ybi, .ref m_ysi, .ref m_ynu, .ref m_ymo])), (m_yt, .inl (cI, 7, .inl m_mq)), (m_ybi, .inl (cI, 4, .inl m_bi)), (m_ysi, .inl (cI, 4, .inl m_sq)), (m_ynu, .inl (cJ, 160, .inr (.inl m_nb)))] ++ tl)) (hz : z ≤ 120) (hsz0 : sz0 ≤ 40) (hsz1 : sz1 ≤ 40) (hsz2 : sz2 ≤ 40) (hsz3 : sz3 ≤ 40) (r_b0 : m_bi 0 = bt0) (r_z0 : m_sq 0 = nI sz0) (r_n0 : ∀ j, j < 40 → m_nb (0 + j) = nu0 j) (r_b1 : m_bi 1 = bt1) (r_z1 : m_sq 1 = nI sz1) (r_n1 : ∀ j, j < 40 → m_nb (40 + j) = nu1 j) (r_b2 : m_bi 2 = bt2) (r_z2 : m_sq 2 = nI sz2) (r_n2 : ∀ j, j < 40 → m_nb (80 + j) = nu2 j) (r_b3 : m_bi 3 = bt3) (r_z3 : m_sq 3 = nI sz3) (r_n3 : ∀ j, j < 40 → m_nb (120 + j) = nu3 j) (m_hsq : BA 4 41 m_sq) (hS : va_S A s.heap H locs) (hl : lv_has ls 4 [(3, .int (nI i)), (2, .ref g0), (1, .ref h0), (0, .ref b)]) (kkx : ∀ (H : Heap) (locs : List Loc) (ls : Array Slot) (bt0_n : Int32) (sz0_n : Nat) (bt1_n : Int32) (sz1_n : Nat) (bt2_n : Int32) (sz2_n : Nat) (bt3_n : Int32) (sz3_n : Nat) (nu0_n : Nat → Int64) (nu1_n : Nat → Int64) (nu2_n : Nat → Int64) (nu3_n : Nat → Int64) (ff_n : Nat → Int32) (m_mq_n : Nat → Int32) (m_bi_n : Nat → Int32) (m_sq_n : Nat → Int32) (m_nb_n : Nat → Int64), va_P D vwCl ([(h0, .inr (8, [.ref qh, .ref qk, .ref qd, .int b0, .ref qa, .ref qm, .ref qs, .ref qp, .ref ql, .ref qt, .ref qz, .ref qf])), (qz, .inl (cS, 4, .inr (.inr (.inr (.inr (xSh s0 s1 s2 s3)))))), (s0, .inr (4, [.int bt0_n, .int (nI (sz0_n)), .ref sn0])), (s1, .inr (4, [.int bt1_n, .int (nI (sz1_n)), .ref sn1])), (s2, .inr (4, [.int bt2_n, .int (nI (sz2_n)), .ref sn2])), (s3, .inr (4, [.int bt3_n, .int (nI (sz3_n)), .ref sn3])), (sn0, .inl (cJ, 40, .inr (.inl nu0_n))), (sn1, .inl (cJ, 40, .inr (.inl nu1_n))), (sn2, .inl (cJ, 40, .inr (.inl nu2_n))), (sn3, .inl (cJ, 40, .inr (.inl nu3_n))), (qf, .inl (cI, 7, .inl ff_n)), (g0, .inr (9, [.ref m_ys, .ref m_yk, .ref m_yo, .ref m_yt, .int b0, .ref m_yfa, .ref m_yfe, .int m_mL, .int m_mS, .int m_mM, .ref m_yro, .ref m_yhe, .ref m_ygr, .int m_mF, .int m_mC, .int m_mY, .ref m_yta, .int (nI (z)), .int (nI (m_mf)), .int (nI (m_mt)), .int m_mv, .int m_mw, .ref m_ywa, .ref m_ybi, .ref m_ysi, .ref m_ynu, .ref m_ymo])), (m_yt, .inl (cI, 7, .inl m_mq_n)), (m_ybi, .inl (cI, 4, .inl m_bi_n)), (m_ysi, .inl (cI, 4, .inl m_sq_n)), (m_ynu, .inl (cJ, 160, .inr (.inl m_nb_n)))] ++ tl) H → va_D A ([(h0, .inr (8, [.ref qh, .ref qk, .ref qd, .int b0, .ref qa, .ref qm, .ref qs, .ref qp, .ref ql, .ref qt, .ref qz, .ref qf])), (qz, .inl (cS, 4, .inr (.inr (.inr (.inr (xSh s0 s1 s2 s3)))))), (s0, .inr (4, [.int bt0_n, .int (nI (sz0_n)), .ref sn0])), (s1, .inr (4, [.int bt1_n, .int (nI (sz1_n)), .ref sn1])), (s2, .inr (4, [.int bt2_n, .int (nI (sz2_n)), .ref sn2])), (s3, .inr (4, [.int bt3_n, .int (nI (sz3_n)), .ref sn3])), (sn0, .inl (cJ, 40, .inr (.inl nu0_n))), (sn1, .inl (cJ, 40, .inr (.inl nu1_n))), (sn2, .inl (cJ, 40, .inr (.inl nu2_n))), (sn3, .inl (cJ, 40, .inr (.inl nu3_n))), (qf, .inl (cI, 7, .inl ff_n)), (g0, .inr (9, [.ref m_ys, .ref m_yk, .ref m_yo, .ref m_yt, .int b0, .ref m_yfa, .ref m_yfe, .int m_mL, .int m_mS, .int m_mM, .ref m_yro, .ref m_yhe, .ref m_ygr, .int m_mF, .int m_mC, .int m_mY, .ref m_yta, .int (nI (z)), .int (nI (m_mf)), .int (nI (m_mt)), .int m_mv, .int m_mw, .ref m_ywa, .ref m_ybi, .ref m_ysi, .ref m_ynu, .ref m_ymo])), (m_yt, .inl (cI, 7, .inl m_mq_n)), (m_ybi, .inl (cI, 4, .inl m_bi_n)), (m_ysi, .inl (cI, 4, .inl m_sq_n)), (m_ynu, .inl (cJ, 160, .inr (.inl m_nb_n)))] ++ tl) → (sz0_n ≤ 40) → (sz1_n ≤ 40) → (sz2_n ≤ 40) → (sz3_n ≤ 40) → (m_bi_n 0 = bt0_n) → (m_sq_n 0 = nI sz0_n) → (∀ j, j < 40 → m_nb_n (0 + j) = nu0_n j) → (m_bi_n 1 = bt1_n) → (m_sq_n 1 = nI sz1_n) → (∀ j, j < 40 → m_nb_n (40 + j) = nu1_n j) → (m_bi_n 2 = bt2_n) → (m_sq_n 2 = nI sz2_n) → (∀ j, j < 40 → m_nb_n (80 + j) = nu2_n j) → (m_bi_n 3 = bt3_n) → (m_sq_n 3 = nI sz3_n) → (∀ j, j < 40 → m_nb_n (120 + j) = nu3_n j) → (BA 4 41 m_sq_n) → va_S A s.heap H locs → lv_has ls 4 [(3, .int (nI i)), (2, .ref g0), (1, .ref h0), (0, .ref b)] → W p l e room_1 s m #[Value.ref b] below meth c H locs 82 4273 (lw_Z below #[Value.ref b] s) (F0 m 1483 ls [])) : W p l e room_1 s m #[Value.ref b] below meth c H locs 82 4273 (lw_Z below #[Value.ref b] s) (F0 m 1162 ls []) := by
  have hx := hF.1
  have hb := hF.2.1
  have hml := hF.2.2.1
  have hown := hF.2.2.2.1
  have hu : ∀ w ∈ wsU, w.before _ s = true := fun w h => hF.2.2.2.2 w (List.mem_cons_of_mem _ h)
  rcases x_sh4 (xs (i + 1)) with oq1 | eq1 | eq1 | eq1 | eq1
  · skip
    refine lv_aload_n hx hb dL_law_1162 rfl (lv_at hl 2 rfl) ?_
    refine lv_aload_n hx hb dL_law_1163 rfl (lv_at hl 3 rfl) ?_
    refine lv_iload_n hx hb dL_law_1164 rfl (lv_at hl 0 rfl) ?_
    refine lv_iconst (v := 1) hx hb dL_law_1165 (by decide) ?_
    refine lv_iadd hx hb dL_law_1166 ?_
    refine xl_i (y := nI (i + 1)) (nI_add i 1) ?_
    refine va_sld hx hb hX hbl hbA hS (x_si (k := 1) (by decide) hi hL) dL_law_1167 ?_
    refine xl_i (y := xs (i + 1)) (congrArg xs (x_sc (k := 1) (by decide) hi hL)) ?_
    refine lv_aload_n hx hb dL_law_1168 rfl (lv_at hl 3 rfl) ?_
    refine lv_iload_n hx hb dL_law_1169 rfl (lv_at hl 0 rfl) ?_
    refine lv_iconst (v := 2) hx hb dL_law_1170 (by decide) ?_
    refine lv_iadd hx hb dL_law_1171 ?_
    refine xl_i (y := nI (i + 2)) (nI_add i 2) ?_
    refine va_sld hx hb hX hbl hbA hS (x_si (k := 2) (by decide) hi hL) dL_law_1172 ?_
    refine xl_i (y := xs (i + 2)) (congrArg xs (x_sc (k := 2) (by decide) hi hL)) ?_
    refine lv_aload_n hx hb dL_law_1173 rfl (lv_at hl 3 rfl) ?_
    refine lv_iload_n hx hb dL_law_1174 rfl (lv_at hl 0 rfl) ?_
    refine lv_iconst (v := 3) hx hb dL_law_1175 (by decide) ?_
    refine lv_iadd hx hb dL_law_1176 ?_
    refine xl_i (y := nI (i + 3)) (nI_add i 3) ?_
    refine va_sld hx hb hX hbl hbA hS (x_si (k := 3) (by decide) hi hL) dL_law_1177 ?_
    refine xl_i (y := xs (i + 3)) (congrArg xs (x_sc (k := 3) (by decide) hi hL)) ?_
    refine xc_ViT (wr := [(qz, .inl (cS, 4, .inr (.inr (.inr (.inr (xSh s0 s1 s2 s3)))))), (s0, .inr (4, [.int bt0, .int (nI (sz0)), .ref sn0])), (s1, .inr (4, [.int bt1, .int (nI (sz1)), .ref sn1])), (s2, .inr (4, [.int bt2, .int (nI (sz2)), .ref sn2])), (s3, .inr (4, [.int bt3, .int (nI (sz3)), .ref sn3])), (sn0, .inl (cJ, 40, .inr (.inl nu0))), (sn1, .inl (cJ, 40, .inr (.inl nu1))), (sn2, .inl (cJ, 40, .inr (.inl nu2))), (sn3, .inl (cJ, 40, .inr (.inl nu3))), (g0, .inr (9, [.ref m_ys, .ref m_yk, .ref m_yo, .ref m_yt, .int b0, .ref m_yfa, .ref m_yfe, .int m_mL, .int m_mS, .int m_mM, .ref m_yro, .ref m_yhe, .ref m_ygr, .int m_mF, .int m_mC, .int m_mY, .ref m_yta, .int (nI (z)), .int (nI (m_mf)), .int (nI (m_mt)), .int m_mv, .int m_mw, .ref m_ywa, .ref m_ybi, .ref m_ysi, .ref m_ynu, .ref m_ymo])), (m_yt, .inl (cI, 7, .inl m_mq)), (m_ybi, .inl (cI, 4, .inl m_bi)), (m_ysi, .inl (cI, 4, .inl m_sq)), (m_ynu, .inl (cJ, 160, .inr (.inl m_nb)))]) hF (c_X8_sheet_o l D cI cJ cZ cS ta sa sv H.size h0 qh qk qd b0 qa qm qs qp ql qt qz qf ff (xs (i + 1)) (xs (i + 2)) (xs (i + 3)) oq1) kv_L_155 ⟨rfl, rfl, Nat.le_of_ble_eq_true rfl, Nat.le_of_ble_eq_true rfl⟩ ⟨Nat.le_of_ble_eq_true rfl, Nat.le_of_ble_eq_true rfl⟩ hK hN hZ hP hD hS hA [0, 10] [1, 2, 3, 4, 5, 6, 7, 8, 9, 11, 12, 13, 14, 15] rfl rfl rfl rfl (by decide) 0 rfl rfl rfl rfl hl.1 rfl (Nat.le_of_ble_eq_true rfl) dL_law_1178 (fun r_1 u_r_1 H locs hw_r_1 hP hD hS => ?_)
    obtain ⟨f2_2, rfl⟩ : ∃ z, z = u_r_1 := ⟨_, rfl⟩
    try dsimp only at hw_r_1
    have hP : va_P D vwCl ([(qz, .inl (cS, 4, .inr (.inr (.inr (.inr (xSh s0 s1 s2 s3)))))), (s0, .inr (4, [.int bt0, .int (nI (sz0)), .ref sn0])), (s1, .inr (4, [.int bt1, .int (nI (sz1)), .ref sn1])), (s2, .inr (4, [.int bt2, .int (nI (sz2)), .ref sn2])), (s3, .inr (4, [.int bt3, .int (nI (sz3)), .ref sn3])), (sn0, .inl (cJ, 40, .inr (.inl nu0))), (sn1, .inl (cJ, 40, .inr (.inl nu1))), (sn2, .inl (cJ, 40, .inr (.inl nu2))), (sn3, .inl (cJ, 40, .inr (.inl nu3))), (g0, .inr (9, [.ref m_ys, .ref m_yk, .ref m_yo, .ref m_yt, .int b0, .ref m_yfa, .ref m_yfe, .int m_mL, .int m_mS, .int m_mM, .ref m_yro, .ref m_yhe, .ref m_ygr, .int m_mF, .int m_mC, .int m_mY, .ref m_yta, .int (nI (z)), .int (nI (m_mf)), .int (nI (m_mt)), .int m_mv, .int m_mw, .ref m_ywa, .ref m_ybi, .ref m_ysi, .ref m_ynu, .ref m_ymo])), (m_yt, .inl (cI, 7, .inl m_mq)), (m_ybi, .inl (cI, 4, .inl m_bi)), (m_ysi, .inl (cI, 4, .inl m_sq)), (m_ynu, .inl (cJ, 160, .inr (.inl m_nb))), (h0, .inr (8, [.ref qh, .ref qk, .ref qd, .int b0, .ref qa, .ref qm, .ref qs, .ref qp, .ref ql, .ref qt, .ref qz, .ref qf])), (qf, .inl (cI, 7, .inl f2_2))] ++ tl) H := hP
    have hD : va_D A ([(qz, .inl (cS, 4, .inr (.inr (.inr (.inr (xSh s0 s1 s2 s3)))))), (s0, .inr (4, [.int bt0, .int (nI (sz0)), .ref sn0])), (s1, .inr (4, [.int bt1, .int (nI (sz1)), .ref sn1])), (s2, .inr (4, [.int bt2, .int (nI (sz2)), .ref sn2])), (s3, .inr (4, [.int bt3, .int (nI (sz3)), .ref sn3])), (sn0, .inl (cJ, 40, .inr (.inl nu0))), (sn1, .inl (cJ, 40, .inr (.inl nu1))), (sn2, .inl (cJ, 40, .inr (.inl nu2))), (sn3, .inl (cJ, 40, .inr (.inl nu3))), (g0, .inr (9, [.ref m_ys, .ref m_yk, .ref m_yo, .ref m_yt, .int b0, .ref m_yfa, .ref m_yfe, .int m_mL, .int m_mS, .int m_mM, .ref m_yro, .ref m_yhe, .ref m_ygr, .int m_mF, .int m_mC, .int m_mY, .ref m_yta, .int (nI (z)), .int (nI (m_mf)), .int (nI (m_mt)), .int m_mv, .int m_mw, .ref m_ywa, .ref m_ybi, .ref m_ysi, .ref m_ynu, .ref m_ymo])), (m_yt, .inl (cI, 7, .inl m_mq)), (m_ybi, .inl (cI, 4, .inl m_bi)), (m_ysi, .inl (cI, 4, .inl m_sq)), (m_ynu, .inl (cJ, 160, .inr (.inl m_nb))), (h0, .inr (8, [.ref qh, .ref qk, .ref qd, .int b0, .ref qa, .ref qm, .ref qs, .ref qp, .ref ql, .ref qt, .ref qz, .ref qf])), (qf, .inl (cI, 7, .inl f2_2))] ++ tl) := hD
    subst hw_r_1
    refine lv_pop hx hb dL_law_1181 rfl ?_
    refine lv_aload_n hx hb dL_law_1182 rfl (lv_at hl 1 rfl) ?_
    refine lv_aload_n hx hb dL_law_1183 rfl (lv_at hl 3 rfl) ?_
    refine lv_iload_n hx hb dL_law_1184 rfl (lv_at hl 0 rfl) ?_
    refine lv_iconst (v := 1) hx hb dL_law_1185 (by decide) ?_
    refine lv_iadd hx hb dL_law_1186 ?_
    refine xl_i (y := nI (i + 1)) (nI_add i 1) ?_
    refine va_sld hx hb hX hbl hbA hS (x_si (k := 1) (by decide) hi hL) dL_law_1187 ?_
    refine xl_i (y := xs (i + 1)) (congrArg xs (x_sc (k := 1) (by decide) hi hL)) ?_
    refine lv_aload_n hx hb dL_law_1188 rfl (lv_at hl 3 rfl) ?_
    refine lv_iload_n hx hb dL_law_1189 rfl (lv_at hl 0 rfl) ?_
    refine lv_iconst (v := 2) hx hb dL_law_1190 (by decide) ?_
    refine lv_iadd hx hb dL_law_1191 ?_
    refine xl_i (y := nI (i + 2)) (nI_add i 2) ?_
    refine va_sld hx hb hX hbl hbA hS (x_si (k := 2) (by decide) hi hL) dL_law_1192 ?_
    refine xl_i (y := xs (i + 2)) (congrArg xs (x_sc (k := 2) (by decide) hi hL)) ?_
    refine lv_aload_n hx hb dL_law_1193 rfl (lv_at hl 3 rfl) ?_
    refine lv_iload_n hx hb dL_law_1194 rfl (lv_at hl 0 rfl) ?_
    refine lv_iconst (v := 3) hx hb dL_law_1195 (by decide) ?_
    refine lv_iadd hx hb dL_law_1196 ?_
    refine xl_i (y := nI (i + 3)) (nI_add i 3) ?_
    refine va_sld hx hb hX hbl hbA hS (x_si (k := 3) (by decide) hi hL) dL_law_1197 ?_
    refine xl_i (y := xs (i + 3)) (congrArg xs (x_sc (k := 3) (by decide) hi hL)) ?_
    refine xc_ViT (wr := [(qz, .inl (cS, 4, .inr (.inr (.inr (.inr (xSh s0 s1 s2 s3)))))), (s0, .inr (4, [.int bt0, .int (nI (sz0)), .ref sn0])), (s1, .inr (4, [.int bt1, .int (nI (sz1)), .ref sn1])), (s2, .inr (4, [.int bt2, .int (nI (sz2)), .ref sn2])), (s3, .inr (4, [.int bt3, .int (nI (sz3)), .ref sn3])), (sn0, .inl (cJ, 40, .inr (.inl nu0))), (sn1, .inl (cJ, 40, .inr (.inl nu1))), (sn2, .inl (cJ, 40, .inr (.inl nu2))), (sn3, .inl (cJ, 40, .inr (.inl nu3))), (m_ybi, .inl (cI, 4, .inl m_bi)), (m_ysi, .inl (cI, 4, .inl m_sq)), (m_ynu, .inl (cJ, 160, .inr (.inl m_nb))), (h0, .inr (8, [.ref qh, .ref qk, .ref qd, .int b0, .ref qa, .ref qm, .ref qs, .ref qp, .ref ql, .ref qt, .ref qz, .ref qf])), (qf, .inl (cI, 7, .inl f2_2))]) hF (c_X9_sheet_o l D cI cJ cZ cS ta sa sv H.size g0 m_ys m_yk m_yo m_yt b0 m_yfa m_yfe m_mL m_mS m_mM m_yro m_yhe m_ygr m_mF m_mC m_mY m_yta z m_mf m_mt m_mv m_mw m_ywa m_ybi m_ysi m_ynu m_ymo m_mq (xs (i + 1)) (xs (i + 2)) (xs (i + 3)) oq1) kv_L_158 ⟨rfl, rfl, Nat.le_of_ble_eq_true rfl, Nat.le_of_ble_eq_true rfl⟩ ⟨Nat.le_of_ble_eq_true rfl, Nat.le_of_ble_eq_true rfl⟩ hK hN hZ hP hD hS hA [9, 10] [0, 1, 2, 3, 4, 5, 6, 7, 8, 11, 12, 13, 14, 15] rfl rfl rfl rfl (by decide) 0 rfl rfl rfl rfl hl.1 rfl (Nat.le_of_ble_eq_true rfl) dL_law_1198 (fun r_3 u_r_3 H locs hw_r_3 hP hD hS => ?_)
    obtain ⟨mq2_4, rfl⟩ : ∃ z, z = u_r_3 := ⟨_, rfl⟩
    try dsimp only at hw_r_3
    have hP : va_P D vwCl ([(qz, .inl (cS, 4, .inr (.inr (.inr (.inr (xSh s0 s1 s2 s3)))))), (s0, .inr (4, [.int bt0, .int (nI (sz0)), .ref sn0])), (s1, .inr (4, [.int bt1, .int (nI (sz1)), .ref sn1])), (s2, .inr (4, [.int bt2, .int (nI (sz2)), .ref sn2])), (s3, .inr (4, [.int bt3, .int (nI (sz3)), .ref sn3])), (sn0, .inl (cJ, 40, .inr (.inl nu0))), (sn1, .inl (cJ, 40, .inr (.inl nu1))), (sn2, .inl (cJ, 40, .inr (.inl nu2))), (sn3, .inl (cJ, 40, .inr (.inl nu3))), (m_ybi, .inl (cI, 4, .inl m_bi)), (m_ysi, .inl (cI, 4, .inl m_sq)), (m_ynu, .inl (cJ, 160, .inr (.inl m_nb))), (h0, .inr (8, [.ref qh, .ref qk, .ref qd, .int b0, .ref qa, .ref qm, .ref qs, .ref qp, .ref ql, .ref qt, .ref qz, .ref qf])), (qf, .inl (cI, 7, .inl f2_2)), (g0, .inr (9, [.ref m_ys, .ref m_yk, .ref m_yo, .ref m_yt, .int b0, .ref m_yfa, .ref m_yfe, .int m_mL, .int m_mS, .int m_mM, .ref m_yro, .ref m_yhe, .ref m_ygr, .int m_mF, .int m_mC, .int m_mY, .ref m_yta, .int (nI (z)), .int (nI (m_mf)), .int (nI (m_mt)), .int m_mv, .int m_mw, .ref m_ywa, .ref m_ybi, .ref m_ysi, .ref m_ynu, .ref m_ymo])), (m_yt, .inl (cI, 7, .inl mq2_4))] ++ tl) H := hP
    have hD : va_D A ([(qz, .inl (cS, 4, .inr (.inr (.inr (.inr (xSh s0 s1 s2 s3)))))), (s0, .inr (4, [.int bt0, .int (nI (sz0)), .ref sn0])), (s1, .inr (4, [.int bt1, .int (nI (sz1)), .ref sn1])), (s2, .inr (4, [.int bt2, .int (nI (sz2)), .ref sn2])), (s3, .inr (4, [.int bt3, .int (nI (sz3)), .ref sn3])), (sn0, .inl (cJ, 40, .inr (.inl nu0))), (sn1, .inl (cJ, 40, .inr (.inl nu1))), (sn2, .inl (cJ, 40, .inr (.inl nu2))), (sn3, .inl (cJ, 40, .inr (.inl nu3))), (m_ybi, .inl (cI, 4, .inl m_bi)), (m_ysi, .inl (cI, 4, .inl m_sq)), (m_ynu, .inl (cJ, 160, .inr (.inl m_nb))), (h0, .inr (8, [.ref qh, .ref qk, .ref qd, .int b0, .ref qa, .ref qm, .ref qs, .ref qp, .ref ql, .ref qt, .ref qz, .ref qf])), (qf, .inl (cI, 7, .inl f2_2)), (g0, .inr (9, [.ref m_ys, .ref m_yk, .ref m_yo, .ref m_yt, .int b0, .ref m_yfa, .ref m_yfe, .int m_mL, .int m_mS, .int m_mM, .ref m_yro, .ref m_yhe, .ref m_ygr, .int m_mF, .int m_mC, .int m_mY, .ref m_yta, .int (nI (z)), .int (nI (m_mf)), .int (nI (m_mt)), .int m_mv, .int m_mw, .ref m_ywa, .ref m_ybi, .ref m_ysi, .ref m_ynu, .ref m_ymo])), (m_yt, .inl (cI, 7, .inl mq2_4))] ++ tl) := hD
    subst hw_r_3
    refine lv_pop hx hb dL_law_1201 rfl ?_
    refine lv_goto (tgt := 1483) hx hb dL_law_1202 (by decide) ?_
    exact kkx _ _ _ bt0 sz0 bt1 sz1 bt2 sz2 bt3 sz3 nu0 nu1 nu2 nu3 f2_2 mq2_4 m_bi m_sq m_nb (xt_P hP [12, 0, 1, 2, 3, 4, 5, 6, 7, 8, 13, 14, 15, 9, 10, 11] rfl) (xt_D hD [12, 0, 1, 2, 3, 4, 5, 6, 7, 8, 13, 14, 15, 9, 10, 11] (by decide +kernel) rfl) hsz0 hsz1 hsz2 hsz3 r_b0 r_z0 r_n0 r_b1 r_z1 r_n1 r_b2 r_z2 r_n2 r_b3 r_z3 r_n3 m_hsq hS hl
  · skip
    refine lv_aload_n hx hb dL_law_1162 rfl (lv_at hl 2 rfl) ?_
    refine lv_aload_n hx hb dL_law_1163 rfl (lv_at hl 3 rfl) ?_
    refine lv_iload_n hx hb dL_law_1164 rfl (lv_at hl 0 rfl) ?_
    refine lv_iconst (v := 1) hx hb dL_law_1165 (by decide) ?_
    refine lv_iadd hx hb dL_law_1166 ?_
    refine xl_i (y := nI (i + 1)) (nI_add i 1) ?_
    refine va_sld hx hb hX hbl hbA hS (x_si (k := 1) (by decide) hi hL) dL_law_1167 ?_
    refine xl_i (y := xs (i + 1)) (congrArg xs (x_sc (k := 1) (by decide) hi hL)) ?_
    refine xl_i (y := 0) eq1 ?_
    refine lv_aload_n hx hb dL_law_1168 rfl (lv_at hl 3 rfl) ?_
    refine lv_iload_n hx hb dL_law_1169 rfl (lv_at hl 0 rfl) ?_
    refine lv_iconst (v := 2) hx hb dL_law_1170 (by decide) ?_
    refine lv_iadd hx hb dL_law_1171 ?_
    refine xl_i (y := nI (i + 2)) (nI_add i 2) ?_
    refine va_sld hx hb hX hbl hbA hS (x_si (k := 2) (by decide) hi hL) dL_law_1172 ?_
    refine xl_i (y := xs (i + 2)) (congrArg xs (x_sc (k := 2) (by decide) hi hL)) ?_
    refine lv_aload_n hx hb dL_law_1173 rfl (lv_at hl 3 rfl) ?_
    refine lv_iload_n hx hb dL_law_1174 rfl (lv_at hl 0 rfl) ?_
    refine lv_iconst (v := 3) hx hb dL_law_1175 (by decide) ?_
    refine lv_iadd hx hb dL_law_1176 ?_
    refine xl_i (y := nI (i + 3)) (nI_add i 3) ?_
    refine va_sld hx hb hX hbl hbA hS (x_si (k := 3) (by decide) hi hL) dL_law_1177 ?_
    refine xl_i (y := xs (i + 3)) (congrArg xs (x_sc (k := 3) (by decide) hi hL)) ?_
    refine xc_ViT (wr := [(g0, .inr (9, [.ref m_ys, .ref m_yk, .ref m_yo, .ref m_yt, .int b0, .ref m_yfa, .ref m_yfe, .int m_mL, .int m_mS, .int m_mM, .ref m_yro, .ref m_yhe, .ref m_ygr, .int m_mF, .int m_mC, .int m_mY, .ref m_yta, .int (nI (z)), .int (nI (m_mf)), .int (nI (m_mt)), .int m_mv, .int m_mw, .ref m_ywa, .ref m_ybi, .ref m_ysi, .ref m_ynu, .ref m_ymo])), (m_yt, .inl (cI, 7, .inl m_mq)), (m_ybi, .inl (cI, 4, .inl m_bi)), (m_ysi, .inl (cI, 4, .inl m_sq)), (m_ynu, .inl (cJ, 160, .inr (.inl m_nb)))]) hF (c_X8_sheet_0 l D cI cJ cZ cS ta sa sv H.size h0 qh qk qd b0 qa qm qs qp ql qt qz qf s0 s1 s2 s3 bt0 sz0 sn0 bt1 sz1 sn1 bt2 sz2 sn2 bt3 sz3 sn3 nu0 nu1 nu2 nu3 ff (xs (i + 2)) (xs (i + 3)) hsz0 hsz1 hsz2 hsz3) kv_L_155 ⟨rfl, rfl, Nat.le_of_ble_eq_true rfl, Nat.le_of_ble_eq_true rfl⟩ ⟨Nat.le_of_ble_eq_true rfl, Nat.le_of_ble_eq_true rfl⟩ hK hN hZ hP hD hS hA [0, 1, 2, 3, 4, 5, 6, 7, 8, 9, 10] [11, 12, 13, 14, 15] rfl rfl rfl rfl (by decide) 0 rfl rfl rfl rfl hl.1 rfl (Nat.le_of_ble_eq_true rfl) dL_law_1178 (fun r_5 u_r_5 H locs hw_r_5 hP hD hS => ?_)
    obtain ⟨bu_6, sy_7, nv_8, f2_9⟩ := u_r_5
    try dsimp only at hw_r_5
    obtain ⟨hw_r_5, i_10, i_11, i_12, i_13⟩ := hw_r_5
    subst i_10
    subst i_11
    have hP : va_P D vwCl ([(g0, .inr (9, [.ref m_ys, .ref m_yk, .ref m_yo, .ref m_yt, .int b0, .ref m_yfa, .ref m_yfe, .int m_mL, .int m_mS, .int m_mM, .ref m_yro, .ref m_yhe, .ref m_ygr, .int m_mF, .int m_mC, .int m_mY, .ref m_yta, .int (nI (z)), .int (nI (m_mf)), .int (nI (m_mt)), .int m_mv, .int m_mw, .ref m_ywa, .ref m_ybi, .ref m_ysi, .ref m_ynu, .ref m_ymo])), (m_yt, .inl (cI, 7, .inl m_mq)), (m_ybi, .inl (cI, 4, .inl m_bi)), (m_ysi, .inl (cI, 4, .inl m_sq)), (m_ynu, .inl (cJ, 160, .inr (.inl m_nb))), (h0, .inr (8, [.ref qh, .ref qk, .ref qd, .int b0, .ref qa, .ref qm, .ref qs, .ref qp, .ref ql, .ref qt, .ref qz, .ref qf])), (qz, .inl (cS, 4, .inr (.inr (.inr (.inr (xSh s0 s1 s2 s3)))))), (s0, .inr (4, [.int (sp_sb (xs (i + 2)) (xs (i + 3)) bt0), .int (nI ((sp_sz (xs (i + 2)) (xs (i + 3)) sz0))), .ref sn0])), (s1, .inr (4, [.int bt1, .int (nI (sz1)), .ref sn1])), (s2, .inr (4, [.int bt2, .int (nI (sz2)), .ref sn2])), (s3, .inr (4, [.int bt3, .int (nI (sz3)), .ref sn3])), (sn0, .inl (cJ, 40, .inr (.inl nv_8))), (sn1, .inl (cJ, 40, .inr (.inl nu1))), (sn2, .inl (cJ, 40, .inr (.inl nu2))), (sn3, .inl (cJ, 40, .inr (.inl nu3))), (qf, .inl (cI, 7, .inl f2_9))] ++ tl) H := hP
    have hD : va_D A ([(g0, .inr (9, [.ref m_ys, .ref m_yk, .ref m_yo, .ref m_yt, .int b0, .ref m_yfa, .ref m_yfe, .int m_mL, .int m_mS, .int m_mM, .ref m_yro, .ref m_yhe, .ref m_ygr, .int m_mF, .int m_mC, .int m_mY, .ref m_yta, .int (nI (z)), .int (nI (m_mf)), .int (nI (m_mt)), .int m_mv, .int m_mw, .ref m_ywa, .ref m_ybi, .ref m_ysi, .ref m_ynu, .ref m_ymo])), (m_yt, .inl (cI, 7, .inl m_mq)), (m_ybi, .inl (cI, 4, .inl m_bi)), (m_ysi, .inl (cI, 4, .inl m_sq)), (m_ynu, .inl (cJ, 160, .inr (.inl m_nb))), (h0, .inr (8, [.ref qh, .ref qk, .ref qd, .int b0, .ref qa, .ref qm, .ref qs, .ref qp, .ref ql, .ref qt, .ref qz, .ref qf])), (qz, .inl (cS, 4, .inr (.inr (.inr (.inr (xSh s0 s1 s2 s3)))))), (s0, .inr (4, [.int (sp_sb (xs (i + 2)) (xs (i + 3)) bt0), .int (nI ((sp_sz (xs (i + 2)) (xs (i + 3)) sz0))), .ref sn0])), (s1, .inr (4, [.int bt1, .int (nI (sz1)), .ref sn1])), (s2, .inr (4, [.int bt2, .int (nI (sz2)), .ref sn2])), (s3, .inr (4, [.int bt3, .int (nI (sz3)), .ref sn3])), (sn0, .inl (cJ, 40, .inr (.inl nv_8))), (sn1, .inl (cJ, 40, .inr (.inl nu1))), (sn2, .inl (cJ, 40, .inr (.inl nu2))), (sn3, .inl (cJ, 40, .inr (.inl nu3))), (qf, .inl (cI, 7, .inl f2_9))] ++ tl) := hD
    subst hw_r_5
    refine lv_pop hx hb dL_law_1181 rfl ?_
    refine lv_aload_n hx hb dL_law_1182 rfl (lv_at hl 1 rfl) ?_
    refine lv_aload_n hx hb dL_law_1183 rfl (lv_at hl 3 rfl) ?_
    refine lv_iload_n hx hb dL_law_1184 rfl (lv_at hl 0 rfl) ?_
    refine lv_iconst (v := 1) hx hb dL_law_1185 (by decide) ?_
    refine lv_iadd hx hb dL_law_1186 ?_
    refine xl_i (y := nI (i + 1)) (nI_add i 1) ?_
    refine va_sld hx hb hX hbl hbA hS (x_si (k := 1) (by decide) hi hL) dL_law_1187 ?_
    refine xl_i (y := xs (i + 1)) (congrArg xs (x_sc (k := 1) (by decide) hi hL)) ?_
    refine xl_i (y := 0) eq1 ?_
    refine lv_aload_n hx hb dL_law_1188 rfl (lv_at hl 3 rfl) ?_
    refine lv_iload_n hx hb dL_law_1189 rfl (lv_at hl 0 rfl) ?_
    refine lv_iconst (v := 2) hx hb dL_law_1190 (by decide) ?_
    refine lv_iadd hx hb dL_law_1191 ?_
    refine xl_i (y := nI (i + 2)) (nI_add i 2) ?_
    refine va_sld hx hb hX hbl hbA hS (x_si (k := 2) (by decide) hi hL) dL_law_1192 ?_
    refine xl_i (y := xs (i + 2)) (congrArg xs (x_sc (k := 2) (by decide) hi hL)) ?_
    refine lv_aload_n hx hb dL_law_1193 rfl (lv_at hl 3 rfl) ?_
    refine lv_iload_n hx hb dL_law_1194 rfl (lv_at hl 0 rfl) ?_
    refine lv_iconst (v := 3) hx hb dL_law_1195 (by decide) ?_
    refine lv_iadd hx hb dL_law_1196 ?_
    refine xl_i (y := nI (i + 3)) (nI_add i 3) ?_
    refine va_sld hx hb hX hbl hbA hS (x_si (k := 3) (by decide) hi hL) dL_law_1197 ?_
    refine xl_i (y := xs (i + 3)) (congrArg xs (x_sc (k := 3) (by decide) hi hL)) ?_
    refine xc_ViT (wr := [(h0, .inr (8, [.ref qh, .ref qk, .ref qd, .int b0, .ref qa, .ref qm, .ref qs, .ref qp, .ref ql, .ref qt, .ref qz, .ref qf])), (qz, .inl (cS, 4, .inr (.inr (.inr (.inr (xSh s0 s1 s2 s3)))))), (s0, .inr (4, [.int (sp_sb (xs (i + 2)) (xs (i + 3)) bt0), .int (nI ((sp_sz (xs (i + 2)) (xs (i + 3)) sz0))), .ref sn0])), (s1, .inr (4, [.int bt1, .int (nI (sz1)), .ref sn1])), (s2, .inr (4, [.int bt2, .int (nI (sz2)), .ref sn2])), (s3, .inr (4, [.int bt3, .int (nI (sz3)), .ref sn3])), (sn0, .inl (cJ, 40, .inr (.inl nv_8))), (sn1, .inl (cJ, 40, .inr (.inl nu1))), (sn2, .inl (cJ, 40, .inr (.inl nu2))), (sn3, .inl (cJ, 40, .inr (.inl nu3))), (qf, .inl (cI, 7, .inl f2_9))]) hF (c_X9_sheet_0 l D cI cJ cZ cS ta sa sv H.size g0 m_ys m_yk m_yo m_yt b0 m_yfa m_yfe m_mL m_mS m_mM m_yro m_yhe m_ygr m_mF m_mC m_mY m_yta z m_mf m_mt m_mv m_mw m_ywa m_ybi m_ysi m_ynu m_ymo m_bi m_sq m_nb m_mq (xs (i + 2)) (xs (i + 3)) sz0 r_z0 hsz0 m_hsq) kv_L_158 ⟨rfl, rfl, Nat.le_of_ble_eq_true rfl, Nat.le_of_ble_eq_true rfl⟩ ⟨Nat.le_of_ble_eq_true rfl, Nat.le_of_ble_eq_true rfl⟩ hK hN hZ hP hD hS hA [0, 2, 3, 4, 1] [5, 6, 7, 8, 9, 10, 11, 12, 13, 14, 15] rfl rfl rfl rfl (by decide) 0 rfl rfl rfl rfl hl.1 rfl (Nat.le_of_ble_eq_true rfl) dL_law_1198 (fun r_14 u_r_14 H locs hw_r_14 hP hD hS => ?_)
    obtain ⟨bi2_15, sq2_16, nb2_17, mq2_18⟩ := u_r_14
    try dsimp only at hw_r_14
    obtain ⟨hw_r_14, i_19, i_20, i_21, i_22, i_23, i_24, i_25⟩ := hw_r_14
    have hP : va_P D vwCl ([(h0, .inr (8, [.ref qh, .ref qk, .ref qd, .int b0, .ref qa, .ref qm, .ref qs, .ref qp, .ref ql, .ref qt, .ref qz, .ref qf])), (qz, .inl (cS, 4, .inr (.inr (.inr (.inr (xSh s0 s1 s2 s3)))))), (s0, .inr (4, [.int (sp_sb (xs (i + 2)) (xs (i + 3)) bt0), .int (nI ((sp_sz (xs (i + 2)) (xs (i + 3)) sz0))), .ref sn0])), (s1, .inr (4, [.int bt1, .int (nI (sz1)), .ref sn1])), (s2, .inr (4, [.int bt2, .int (nI (sz2)), .ref sn2])), (s3, .inr (4, [.int bt3, .int (nI (sz3)), .ref sn3])), (sn0, .inl (cJ, 40, .inr (.inl nv_8))), (sn1, .inl (cJ, 40, .inr (.inl nu1))), (sn2, .inl (cJ, 40, .inr (.inl nu2))), (sn3, .inl (cJ, 40, .inr (.inl nu3))), (qf, .inl (cI, 7, .inl f2_9)), (g0, .inr (9, [.ref m_ys, .ref m_yk, .ref m_yo, .ref m_yt, .int b0, .ref m_yfa, .ref m_yfe, .int m_mL, .int m_mS, .int m_mM, .ref m_yro, .ref m_yhe, .ref m_ygr, .int m_mF, .int m_mC, .int m_mY, .ref m_yta, .int (nI (z)), .int (nI (m_mf)), .int (nI (m_mt)), .int m_mv, .int m_mw, .ref m_ywa, .ref m_ybi, .ref m_ysi, .ref m_ynu, .ref m_ymo])), (m_ybi, .inl (cI, 4, .inl bi2_15)), (m_ysi, .inl (cI, 4, .inl sq2_16)), (m_ynu, .inl (cJ, 160, .inr (.inl nb2_17))), (m_yt, .inl (cI, 7, .inl mq2_18))] ++ tl) H := hP
    have hD : va_D A ([(h0, .inr (8, [.ref qh, .ref qk, .ref qd, .int b0, .ref qa, .ref qm, .ref qs, .ref qp, .ref ql, .ref qt, .ref qz, .ref qf])), (qz, .inl (cS, 4, .inr (.inr (.inr (.inr (xSh s0 s1 s2 s3)))))), (s0, .inr (4, [.int (sp_sb (xs (i + 2)) (xs (i + 3)) bt0), .int (nI ((sp_sz (xs (i + 2)) (xs (i + 3)) sz0))), .ref sn0])), (s1, .inr (4, [.int bt1, .int (nI (sz1)), .ref sn1])), (s2, .inr (4, [.int bt2, .int (nI (sz2)), .ref sn2])), (s3, .inr (4, [.int bt3, .int (nI (sz3)), .ref sn3])), (sn0, .inl (cJ, 40, .inr (.inl nv_8))), (sn1, .inl (cJ, 40, .inr (.inl nu1))), (sn2, .inl (cJ, 40, .inr (.inl nu2))), (sn3, .inl (cJ, 40, .inr (.inl nu3))), (qf, .inl (cI, 7, .inl f2_9)), (g0, .inr (9, [.ref m_ys, .ref m_yk, .ref m_yo, .ref m_yt, .int b0, .ref m_yfa, .ref m_yfe, .int m_mL, .int m_mS, .int m_mM, .ref m_yro, .ref m_yhe, .ref m_ygr, .int m_mF, .int m_mC, .int m_mY, .ref m_yta, .int (nI (z)), .int (nI (m_mf)), .int (nI (m_mt)), .int m_mv, .int m_mw, .ref m_ywa, .ref m_ybi, .ref m_ysi, .ref m_ynu, .ref m_ymo])), (m_ybi, .inl (cI, 4, .inl bi2_15)), (m_ysi, .inl (cI, 4, .inl sq2_16)), (m_ynu, .inl (cJ, 160, .inr (.inl nb2_17))), (m_yt, .inl (cI, 7, .inl mq2_18))] ++ tl) := hD
    subst hw_r_14
    refine lv_pop hx hb dL_law_1201 rfl ?_
    refine lv_goto (tgt := 1483) hx hb dL_law_1202 (by decide) ?_
    exact kkx _ _ _ (sp_sb (xs (i + 2)) (xs (i + 3)) bt0) (sp_sz (xs (i + 2)) (xs (i + 3)) sz0) bt1 sz1 bt2 sz2 bt3 sz3 nv_8 nu1 nu2 nu3 f2_9 mq2_18 bi2_15 sq2_16 nb2_17 (xt_P hP [0, 1, 2, 3, 4, 5, 6, 7, 8, 9, 10, 11, 15, 12, 13, 14] rfl) (xt_D hD [0, 1, 2, 3, 4, 5, 6, 7, 8, 9, 10, 11, 15, 12, 13, 14] (by decide +kernel) rfl) i_13 hsz1 hsz2 hsz3 (i_19.trans (congrArg (sp_sb _ _) r_b0)) i_21 (fun j hj => by rw [i_23 j hj, r_n0 j hj, i_12 j hj]) ((i_20 1 (by decide)).trans r_b1) ((i_22 1 (by decide)).trans r_z1) (fun j hj => (i_24 (40 + j) (by omega)).trans (r_n1 j hj)) ((i_20 2 (by decide)).trans r_b2) ((i_22 2 (by decide)).trans r_z2) (fun j hj => (i_24 (80 + j) (by omega)).trans (r_n2 j hj)) ((i_20 3 (by decide)).trans r_b3) ((i_22 3 (by decide)).trans r_z3) (fun j hj => (i_24 (120 + j) (by omega)).trans (r_n3 j hj)) i_25 hS hl
  · skip
    refine lv_aload_n hx hb dL_law_1162 rfl (lv_at hl 2 rfl) ?_
    refine lv_aload_n hx hb dL_law_1163 rfl (lv_at hl 3 rfl) ?_
    refine lv_iload_n hx hb dL_law_1164 rfl (lv_at hl 0 rfl) ?_
    refine lv_iconst (v := 1) hx hb dL_law_1165 (by decide) ?_
    refine lv_iadd hx hb dL_law_1166 ?_
    refine xl_i (y := nI (i + 1)) (nI_add i 1) ?_
    refine va_sld hx hb hX hbl hbA hS (x_si (k := 1) (by decide) hi hL) dL_law_1167 ?_
    refine xl_i (y := xs (i + 1)) (congrArg xs (x_sc (k := 1) (by decide) hi hL)) ?_
    refine xl_i (y := 1) eq1 ?_
    refine lv_aload_n hx hb dL_law_1168 rfl (lv_at hl 3 rfl) ?_
    refine lv_iload_n hx hb dL_law_1169 rfl (lv_at hl 0 rfl) ?_
    refine lv_iconst (v := 2) hx hb dL_law_1170 (by decide) ?_
    refine lv_iadd hx hb dL_law_1171 ?_
    refine xl_i (y := nI (i + 2)) (nI_add i 2) ?_
    refine va_sld hx hb hX hbl hbA hS (x_si (k := 2) (by decide) hi hL) dL_law_1172 ?_
    refine xl_i (y := xs (i + 2)) (congrArg xs (x_sc (k := 2) (by decide) hi hL)) ?_
    refine lv_aload_n hx hb dL_law_1173 rfl (lv_at hl 3 rfl) ?_
    refine lv_iload_n hx hb dL_law_1174 rfl (lv_at hl 0 rfl) ?_
    refine lv_iconst (v := 3) hx hb dL_law_1175 (by decide) ?_
    refine lv_iadd hx hb dL_law_1176 ?_
    refine xl_i (y := nI (i + 3)) (nI_add i 3) ?_
    refine va_sld hx hb hX hbl hbA hS (x_si (k := 3) (by decide) hi hL) dL_law_1177 ?_
    refine xl_i (y := xs (i + 3)) (congrArg xs (x_sc (k := 3) (by decide) hi hL)) ?_
    refine xc_ViT (wr := [(g0, .inr (9, [.ref m_ys, .ref m_yk, .ref m_yo, .ref m_yt, .int b0, .ref m_yfa, .ref m_yfe, .int m_mL, .int m_mS, .int m_mM, .ref m_yro, .ref m_yhe, .ref m_ygr, .int m_mF, .int m_mC, .int m_mY, .ref m_yta, .int (nI (z)), .int (nI (m_mf)), .int (nI (m_mt)), .int m_mv, .int m_mw, .ref m_ywa, .ref m_ybi, .ref m_ysi, .ref m_ynu, .ref m_ymo])), (m_yt, .inl (cI, 7, .inl m_mq)), (m_ybi, .inl (cI, 4, .inl m_bi)), (m_ysi, .inl (cI, 4, .inl m_sq)), (m_ynu, .inl (cJ, 160, .inr (.inl m_nb)))]) hF (c_X8_sheet_1 l D cI cJ cZ cS ta sa sv H.size h0 qh qk qd b0 qa qm qs qp ql qt qz qf s0 s1 s2 s3 bt0 sz0 sn0 bt1 sz1 sn1 bt2 sz2 sn2 bt3 sz3 sn3 nu0 nu1 nu2 nu3 ff (xs (i + 2)) (xs (i + 3)) hsz0 hsz1 hsz2 hsz3) kv_L_155 ⟨rfl, rfl, Nat.le_of_ble_eq_true rfl, Nat.le_of_ble_eq_true rfl⟩ ⟨Nat.le_of_ble_eq_true rfl, Nat.le_of_ble_eq_true rfl⟩ hK hN hZ hP hD hS hA [0, 1, 2, 3, 4, 5, 6, 7, 8, 9, 10] [11, 12, 13, 14, 15] rfl rfl rfl rfl (by decide) 0 rfl rfl rfl rfl hl.1 rfl (Nat.le_of_ble_eq_true rfl) dL_law_1178 (fun r_26 u_r_26 H locs hw_r_26 hP hD hS => ?_)
    obtain ⟨bu_27, sy_28, nv_29, f2_30⟩ := u_r_26
    try dsimp only at hw_r_26
    obtain ⟨hw_r_26, i_31, i_32, i_33, i_34⟩ := hw_r_26
    subst i_31
    subst i_32
    have hP : va_P D vwCl ([(g0, .inr (9, [.ref m_ys, .ref m_yk, .ref m_yo, .ref m_yt, .int b0, .ref m_yfa, .ref m_yfe, .int m_mL, .int m_mS, .int m_mM, .ref m_yro, .ref m_yhe, .ref m_ygr, .int m_mF, .int m_mC, .int m_mY, .ref m_yta, .int (nI (z)), .int (nI (m_mf)), .int (nI (m_mt)), .int m_mv, .int m_mw, .ref m_ywa, .ref m_ybi, .ref m_ysi, .ref m_ynu, .ref m_ymo])), (m_yt, .inl (cI, 7, .inl m_mq)), (m_ybi, .inl (cI, 4, .inl m_bi)), (m_ysi, .inl (cI, 4, .inl m_sq)), (m_ynu, .inl (cJ, 160, .inr (.inl m_nb))), (h0, .inr (8, [.ref qh, .ref qk, .ref qd, .int b0, .ref qa, .ref qm, .ref qs, .ref qp, .ref ql, .ref qt, .ref qz, .ref qf])), (qz, .inl (cS, 4, .inr (.inr (.inr (.inr (xSh s0 s1 s2 s3)))))), (s0, .inr (4, [.int bt0, .int (nI (sz0)), .ref sn0])), (s1, .inr (4, [.int (sp_sb (xs (i + 2)) (xs (i + 3)) bt1), .int (nI ((sp_sz (xs (i + 2)) (xs (i + 3)) sz1))), .ref sn1])), (s2, .inr (4, [.int bt2, .int (nI (sz2)), .ref sn2])), (s3, .inr (4, [.int bt3, .int (nI (sz3)), .ref sn3])), (sn0, .inl (cJ, 40, .inr (.inl nu0))), (sn1, .inl (cJ, 40, .inr (.inl nv_29))), (sn2, .inl (cJ, 40, .inr (.inl nu2))), (sn3, .inl (cJ, 40, .inr (.inl nu3))), (qf, .inl (cI, 7, .inl f2_30))] ++ tl) H := hP
    have hD : va_D A ([(g0, .inr (9, [.ref m_ys, .ref m_yk, .ref m_yo, .ref m_yt, .int b0, .ref m_yfa, .ref m_yfe, .int m_mL, .int m_mS, .int m_mM, .ref m_yro, .ref m_yhe, .ref m_ygr, .int m_mF, .int m_mC, .int m_mY, .ref m_yta, .int (nI (z)), .int (nI (m_mf)), .int (nI (m_mt)), .int m_mv, .int m_mw, .ref m_ywa, .ref m_ybi, .ref m_ysi, .ref m_ynu, .ref m_ymo])), (m_yt, .inl (cI, 7, .inl m_mq)), (m_ybi, .inl (cI, 4, .inl m_bi)), (m_ysi, .inl (cI, 4, .inl m_sq)), (m_ynu, .inl (cJ, 160, .inr (.inl m_nb))), (h0, .inr (8, [.ref qh, .ref qk, .ref qd, .int b0, .ref qa, .ref qm, .ref qs, .ref qp, .ref ql, .ref qt, .ref qz, .ref qf])), (qz, .inl (cS, 4, .inr (.inr (.inr (.inr (xSh s0 s1 s2 s3)))))), (s0, .inr (4, [.int bt0, .int (nI (sz0)), .ref sn0])), (s1, .inr (4, [.int (sp_sb (xs (i + 2)) (xs (i + 3)) bt1), .int (nI ((sp_sz (xs (i + 2)) (xs (i + 3)) sz1))), .ref sn1])), (s2, .inr (4, [.int bt2, .int (nI (sz2)), .ref sn2])), (s3, .inr (4, [.int bt3, .int (nI (sz3)), .ref sn3])), (sn0, .inl (cJ, 40, .inr (.inl nu0))), (sn1, .inl (cJ, 40, .inr (.inl nv_29))), (sn2, .inl (cJ, 40, .inr (.inl nu2))), (sn3, .inl (cJ, 40, .inr (.inl nu3))), (qf, .inl (cI, 7, .inl f2_30))] ++ tl) := hD
    subst hw_r_26
    refine lv_pop hx hb dL_law_1181 rfl ?_
    refine lv_aload_n hx hb dL_law_1182 rfl (lv_at hl 1 rfl) ?_
    refine lv_aload_n hx hb dL_law_1183 rfl (lv_at hl 3 rfl) ?_
    refine lv_iload_n hx hb dL_law_1184 rfl (lv_at hl 0 rfl) ?_
    refine lv_iconst (v := 1) hx hb dL_law_1185 (by decide) ?_
    refine lv_iadd hx hb dL_law_1186 ?_
    refine xl_i (y := nI (i + 1)) (nI_add i 1) ?_
    refine va_sld hx hb hX hbl hbA hS (x_si (k := 1) (by decide) hi hL) dL_law_1187 ?_
    refine xl_i (y := xs (i + 1)) (congrArg xs (x_sc (k := 1) (by decide) hi hL)) ?_
    refine xl_i (y := 1) eq1 ?_
    refine lv_aload_n hx hb dL_law_1188 rfl (lv_at hl 3 rfl) ?_
    refine lv_iload_n hx hb dL_law_1189 rfl (lv_at hl 0 rfl) ?_
    refine lv_iconst (v := 2) hx hb dL_law_1190 (by decide) ?_
    refine lv_iadd hx hb dL_law_1191 ?_
    refine xl_i (y := nI (i + 2)) (nI_add i 2) ?_
    refine va_sld hx hb hX hbl hbA hS (x_si (k := 2) (by decide) hi hL) dL_law_1192 ?_
    refine xl_i (y := xs (i + 2)) (congrArg xs (x_sc (k := 2) (by decide) hi hL)) ?_
    refine lv_aload_n hx hb dL_law_1193 rfl (lv_at hl 3 rfl) ?_
    refine lv_iload_n hx hb dL_law_1194 rfl (lv_at hl 0 rfl) ?_
    refine lv_iconst (v := 3) hx hb dL_law_1195 (by decide) ?_
    refine lv_iadd hx hb dL_law_1196 ?_
    refine xl_i (y := nI (i + 3)) (nI_add i 3) ?_
    refine va_sld hx hb hX hbl hbA hS (x_si (k := 3) (by decide) hi hL) dL_law_1197 ?_
    refine xl_i (y := xs (i + 3)) (congrArg xs (x_sc (k := 3) (by decide) hi hL)) ?_
    refine xc_ViT (wr := [(h0, .inr (8, [.ref qh, .ref qk, .ref qd, .int b0, .ref qa, .ref qm, .ref qs, .ref qp, .ref ql, .ref qt, .ref qz, .ref qf])), (qz, .inl (cS, 4, .inr (.inr (.inr (.inr (xSh s0 s1 s2 s3)))))), (s0, .inr (4, [.int bt0, .int (nI (sz0)), .ref sn0])), (s1, .inr (4, [.int (sp_sb (xs (i + 2)) (xs (i + 3)) bt1), .int (nI ((sp_sz (xs (i + 2)) (xs (i + 3)) sz1))), .ref sn1])), (s2, .inr (4, [.int bt2, .int (nI (sz2)), .ref sn2])), (s3, .inr (4, [.int bt3, .int (nI (sz3)), .ref sn3])), (sn0, .inl (cJ, 40, .inr (.inl nu0))), (sn1, .inl (cJ, 40, .inr (.inl nv_29))), (sn2, .inl (cJ, 40, .inr (.inl nu2))), (sn3, .inl (cJ, 40, .inr (.inl nu3))), (qf, .inl (cI, 7, .inl f2_30))]) hF (c_X9_sheet_1 l D cI cJ cZ cS ta sa sv H.size g0 m_ys m_yk m_yo m_yt b0 m_yfa m_yfe m_mL m_mS m_mM m_yro m_yhe m_ygr m_mF m_mC m_mY m_yta z m_mf m_mt m_mv m_mw m_ywa m_ybi m_ysi m_ynu m_ymo m_bi m_sq m_nb m_mq (xs (i + 2)) (xs (i + 3)) sz1 r_z1 hsz1 m_hsq) kv_L_158 ⟨rfl, rfl, Nat.le_of_ble_eq_true rfl, Nat.le_of_ble_eq_true rfl⟩ ⟨Nat.le_of_ble_eq_true rfl, Nat.le_of_ble_eq_true rfl⟩ hK hN hZ hP hD hS hA [0, 2, 3, 4, 1] [5, 6, 7, 8, 9, 10, 11, 12, 13, 14, 15] rfl rfl rfl rfl (by decide) 0 rfl rfl rfl rfl hl.1 rfl (Nat.le_of_ble_eq_true rfl) dL_law_1198 (fun r_35 u_r_35 H locs hw_r_35 hP hD hS => ?_)
    obtain ⟨bi2_36, sq2_37, nb2_38, mq2_39⟩ := u_r_35
    try dsimp only at hw_r_35
    obtain ⟨hw_r_35, i_40, i_41, i_42, i_43, i_44, i_45, i_46⟩ := hw_r_35
    have hP : va_P D vwCl ([(h0, .inr (8, [.ref qh, .ref qk, .ref qd, .int b0, .ref qa, .ref qm, .ref qs, .ref qp, .ref ql, .ref qt, .ref qz, .ref qf])), (qz, .inl (cS, 4, .inr (.inr (.inr (.inr (xSh s0 s1 s2 s3)))))), (s0, .inr (4, [.int bt0, .int (nI (sz0)), .ref sn0])), (s1, .inr (4, [.int (sp_sb (xs (i + 2)) (xs (i + 3)) bt1), .int (nI ((sp_sz (xs (i + 2)) (xs (i + 3)) sz1))), .ref sn1])), (s2, .inr (4, [.int bt2, .int (nI (sz2)), .ref sn2])), (s3, .inr (4, [.int bt3, .int (nI (sz3)), .ref sn3])), (sn0, .inl (cJ, 40, .inr (.inl nu0))), (sn1, .inl (cJ, 40, .inr (.inl nv_29))), (sn2, .inl (cJ, 40, .inr (.inl nu2))), (sn3, .inl (cJ, 40, .inr (.inl nu3))), (qf, .inl (cI, 7, .inl f2_30)), (g0, .inr (9, [.ref m_ys, .ref m_yk, .ref m_yo, .ref m_yt, .int b0, .ref m_yfa, .ref m_yfe, .int m_mL, .int m_mS, .int m_mM, .ref m_yro, .ref m_yhe, .ref m_ygr, .int m_mF, .int m_mC, .int m_mY, .ref m_yta, .int (nI (z)), .int (nI (m_mf)), .int (nI (m_mt)), .int m_mv, .int m_mw, .ref m_ywa, .ref m_ybi, .ref m_ysi, .ref m_ynu, .ref m_ymo])), (m_ybi, .inl (cI, 4, .inl bi2_36)), (m_ysi, .inl (cI, 4, .inl sq2_37)), (m_ynu, .inl (cJ, 160, .inr (.inl nb2_38))), (m_yt, .inl (cI, 7, .inl mq2_39))] ++ tl) H := hP
    have hD : va_D A ([(h0, .inr (8, [.ref qh, .ref qk, .ref qd, .int b0, .ref qa, .ref qm, .ref qs, .ref qp, .ref ql, .ref qt, .ref qz, .ref qf])), (qz, .inl (cS, 4, .inr (.inr (.inr (.inr (xSh s0 s1 s2 s3)))))), (s0, .inr (4, [.int bt0, .int (nI (sz0)), .ref sn0])), (s1, .inr (4, [.int (sp_sb (xs (i + 2)) (xs (i + 3)) bt1), .int (nI ((sp_sz (xs (i + 2)) (xs (i + 3)) sz1))), .ref sn1])), (s2, .inr (4, [.int bt2, .int (nI (sz2)), .ref sn2])), (s3, .inr (4, [.int bt3, .int (nI (sz3)), .ref sn3])), (sn0, .inl (cJ, 40, .inr (.inl nu0))), (sn1, .inl (cJ, 40, .inr (.inl nv_29))), (sn2, .inl (cJ, 40, .inr (.inl nu2))), (sn3, .inl (cJ, 40, .inr (.inl nu3))), (qf, .inl (cI, 7, .inl f2_30)), (g0, .inr (9, [.ref m_ys, .ref m_yk, .ref m_yo, .ref m_yt, .int b0, .ref m_yfa, .ref m_yfe, .int m_mL, .int m_mS, .int m_mM, .ref m_yro, .ref m_yhe, .ref m_ygr, .int m_mF, .int m_mC, .int m_mY, .ref m_yta, .int (nI (z)), .int (nI (m_mf)), .int (nI (m_mt)), .int m_mv, .int m_mw, .ref m_ywa, .ref m_ybi, .ref m_ysi, .ref m_ynu, .ref m_ymo])), (m_ybi, .inl (cI, 4, .inl bi2_36)), (m_ysi, .inl (cI, 4, .inl sq2_37)), (m_ynu, .inl (cJ, 160, .inr (.inl nb2_38))), (m_yt, .inl (cI, 7, .inl mq2_39))] ++ tl) := hD
    subst hw_r_35
    refine lv_pop hx hb dL_law_1201 rfl ?_
    refine lv_goto (tgt := 1483) hx hb dL_law_1202 (by decide) ?_
    exact kkx _ _ _ bt0 sz0 (sp_sb (xs (i + 2)) (xs (i + 3)) bt1) (sp_sz (xs (i + 2)) (xs (i + 3)) sz1) bt2 sz2 bt3 sz3 nu0 nv_29 nu2 nu3 f2_30 mq2_39 bi2_36 sq2_37 nb2_38 (xt_P hP [0, 1, 2, 3, 4, 5, 6, 7, 8, 9, 10, 11, 15, 12, 13, 14] rfl) (xt_D hD [0, 1, 2, 3, 4, 5, 6, 7, 8, 9, 10, 11, 15, 12, 13, 14] (by decide +kernel) rfl) hsz0 i_34 hsz2 hsz3 ((i_41 0 (by decide)).trans r_b0) ((i_43 0 (by decide)).trans r_z0) (fun j hj => (i_45 (0 + j) (by omega)).trans (r_n0 j hj)) (i_40.trans (congrArg (sp_sb _ _) r_b1)) i_42 (fun j hj => by rw [i_44 j hj, r_n1 j hj, i_33 j hj]) ((i_41 2 (by decide)).trans r_b2) ((i_43 2 (by decide)).trans r_z2) (fun j hj => (i_45 (80 + j) (by omega)).trans (r_n2 j hj)) ((i_41 3 (by decide)).trans r_b3) ((i_43 3 (by decide)).trans r_z3) (fun j hj => (i_45 (120 + j) (by omega)).trans (r_n3 j hj)) i_46 hS hl
  · skip
    refine lv_aload_n hx hb dL_law_1162 rfl (lv_at hl 2 rfl) ?_
    refine lv_aload_n hx hb dL_law_1163 rfl (lv_at hl 3 rfl) ?_
    refine lv_iload_n hx hb dL_law_1164 rfl (lv_at hl 0 rfl) ?_
    refine lv_iconst (v := 1) hx hb dL_law_1165 (by decide) ?_
    refine lv_iadd hx hb dL_law_1166 ?_
    refine xl_i (y := nI (i + 1)) (nI_add i 1) ?_
    refine va_sld hx hb hX hbl hbA hS (x_si (k := 1) (by decide) hi hL) dL_law_1167 ?_
    refine xl_i (y := xs (i + 1)) (congrArg xs (x_sc (k := 1) (by decide) hi hL)) ?_
    refine xl_i (y := 2) eq1 ?_
    refine lv_aload_n hx hb dL_law_1168 rfl (lv_at hl 3 rfl) ?_
    refine lv_iload_n hx hb dL_law_1169 rfl (lv_at hl 0 rfl) ?_
    refine lv_iconst (v := 2) hx hb dL_law_1170 (by decide) ?_
    refine lv_iadd hx hb dL_law_1171 ?_
    refine xl_i (y := nI (i + 2)) (nI_add i 2) ?_
    refine va_sld hx hb hX hbl hbA hS (x_si (k := 2) (by decide) hi hL) dL_law_1172 ?_
    refine xl_i (y := xs (i + 2)) (congrArg xs (x_sc (k := 2) (by decide) hi hL)) ?_
    refine lv_aload_n hx hb dL_law_1173 rfl (lv_at hl 3 rfl) ?_
    refine lv_iload_n hx hb dL_law_1174 rfl (lv_at hl 0 rfl) ?_
    refine lv_iconst (v := 3) hx hb dL_law_1175 (by decide) ?_
    refine lv_iadd hx hb dL_law_1176 ?_
    refine xl_i (y := nI (i + 3)) (nI_add i 3) ?_
    refine va_sld hx hb hX hbl hbA hS (x_si (k := 3) (by decide) hi hL) dL_law_1177 ?_
    refine xl_i (y := xs (i + 3)) (congrArg xs (x_sc (k := 3) (by decide) hi hL)) ?_
    refine xc_ViT (wr := [(g0, .inr (9, [.ref m_ys, .ref m_yk, .ref m_yo, .ref m_yt, .int b0, .ref m_yfa, .ref m_yfe, .int m_mL, .int m_mS, .int m_mM, .ref m_yro, .ref m_yhe, .ref m_ygr, .int m_mF, .int m_mC, .int m_mY, .ref m_yta, .int (nI (z)), .int (nI (m_mf)), .int (nI (m_mt)), .int m_mv, .int m_mw, .ref m_ywa, .ref m_ybi, .ref m_ysi, .ref m_ynu, .ref m_ymo])), (m_yt, .inl (cI, 7, .inl m_mq)), (m_ybi, .inl (cI, 4, .inl m_bi)), (m_ysi, .inl (cI, 4, .inl m_sq)), (m_ynu, .inl (cJ, 160, .inr (.inl m_nb)))]) hF (c_X8_sheet_2 l D cI cJ cZ cS ta sa sv H.size h0 qh qk qd b0 qa qm qs qp ql qt qz qf s0 s1 s2 s3 bt0 sz0 sn0 bt1 sz1 sn1 bt2 sz2 sn2 bt3 sz3 sn3 nu0 nu1 nu2 nu3 ff (xs (i + 2)) (xs (i + 3)) hsz0 hsz1 hsz2 hsz3) kv_L_155 ⟨rfl, rfl, Nat.le_of_ble_eq_true rfl, Nat.le_of_ble_eq_true rfl⟩ ⟨Nat.le_of_ble_eq_true rfl, Nat.le_of_ble_eq_true rfl⟩ hK hN hZ hP hD hS hA [0, 1, 2, 3, 4, 5, 6, 7, 8, 9, 10] [11, 12, 13, 14, 15] rfl rfl rfl rfl (by decide) 0 rfl rfl rfl rfl hl.1 rfl (Nat.le_of_ble_eq_true rfl) dL_law_1178 (fun r_47 u_r_47 H locs hw_r_47 hP hD hS => ?_)
    obtain ⟨bu_48, sy_49, nv_50, f2_51⟩ := u_r_47
    try dsimp only at hw_r_47
    obtain ⟨hw_r_47, i_52, i_53, i_54, i_55⟩ := hw_r_47
    subst i_52
    subst i_53
    have hP : va_P D vwCl ([(g0, .inr (9, [.ref m_ys, .ref m_yk, .ref m_yo, .ref m_yt, .int b0, .ref m_yfa, .ref m_yfe, .int m_mL, .int m_mS, .int m_mM, .ref m_yro, .ref m_yhe, .ref m_ygr, .int m_mF, .int m_mC, .int m_mY, .ref m_yta, .int (nI (z)), .int (nI (m_mf)), .int (nI (m_mt)), .int m_mv, .int m_mw, .ref m_ywa, .ref m_ybi, .ref m_ysi, .ref m_ynu, .ref m_ymo])), (m_yt, .inl (cI, 7, .inl m_mq)), (m_ybi, .inl (cI, 4, .inl m_bi)), (m_ysi, .inl (cI, 4, .inl m_sq)), (m_ynu, .inl (cJ, 160, .inr (.inl m_nb))), (h0, .inr (8, [.ref qh, .ref qk, .ref qd, .int b0, .ref qa, .ref qm, .ref qs, .ref qp, .ref ql, .ref qt, .ref qz, .ref qf])), (qz, .inl (cS, 4, .inr (.inr (.inr (.inr (xSh s0 s1 s2 s3)))))), (s0, .inr (4, [.int bt0, .int (nI (sz0)), .ref sn0])), (s1, .inr (4, [.int bt1, .int (nI (sz1)), .ref sn1])), (s2, .inr (4, [.int (sp_sb (xs (i + 2)) (xs (i + 3)) bt2), .int (nI ((sp_sz (xs (i + 2)) (xs (i + 3)) sz2))), .ref sn2])), (s3, .inr (4, [.int bt3, .int (nI (sz3)), .ref sn3])), (sn0, .inl (cJ, 40, .inr (.inl nu0))), (sn1, .inl (cJ, 40, .inr (.inl nu1))), (sn2, .inl (cJ, 40, .inr (.inl nv_50))), (sn3, .inl (cJ, 40, .inr (.inl nu3))), (qf, .inl (cI, 7, .inl f2_51))] ++ tl) H := hP
    have hD : va_D A ([(g0, .inr (9, [.ref m_ys, .ref m_yk, .ref m_yo, .ref m_yt, .int b0, .ref m_yfa, .ref m_yfe, .int m_mL, .int m_mS, .int m_mM, .ref m_yro, .ref m_yhe, .ref m_ygr, .int m_mF, .int m_mC, .int m_mY, .ref m_yta, .int (nI (z)), .int (nI (m_mf)), .int (nI (m_mt)), .int m_mv, .int m_mw, .ref m_ywa, .ref m_ybi, .ref m_ysi, .ref m_ynu, .ref m_ymo])), (m_yt, .inl (cI, 7, .inl m_mq)), (m_ybi, .inl (cI, 4, .inl m_bi)), (m_ysi, .inl (cI, 4, .inl m_sq)), (m_ynu, .inl (cJ, 160, .inr (.inl m_nb))), (h0, .inr (8, [.ref qh, .ref qk, .ref qd, .int b0, .ref qa, .ref qm, .ref qs, .ref qp, .ref ql, .ref qt, .ref qz, .ref qf])), (qz, .inl (cS, 4, .inr (.inr (.inr (.inr (xSh s0 s1 s2 s3)))))), (s0, .inr (4, [.int bt0, .int (nI (sz0)), .ref sn0])), (s1, .inr (4, [.int bt1, .int (nI (sz1)), .ref sn1])), (s2, .inr (4, [.int (sp_sb (xs (i + 2)) (xs (i + 3)) bt2), .int (nI ((sp_sz (xs (i + 2)) (xs (i + 3)) sz2))), .ref sn2])), (s3, .inr (4, [.int bt3, .int (nI (sz3)), .ref sn3])), (sn0, .inl (cJ, 40, .inr (.inl nu0))), (sn1, .inl (cJ, 40, .inr (.inl nu1))), (sn2, .inl (cJ, 40, .inr (.inl nv_50))), (sn3, .inl (cJ, 40, .inr (.inl nu3))), (qf, .inl (cI, 7, .inl f2_51))] ++ tl) := hD
    subst hw_r_47
    refine lv_pop hx hb dL_law_1181 rfl ?_
    refine lv_aload_n hx hb dL_law_1182 rfl (lv_at hl 1 rfl) ?_
    refine lv_aload_n hx hb dL_law_1183 rfl (lv_at hl 3 rfl) ?_
    refine lv_iload_n hx hb dL_law_1184 rfl (lv_at hl 0 rfl) ?_
    refine lv_iconst (v := 1) hx hb dL_law_1185 (by decide) ?_
    refine lv_iadd hx hb dL_law_1186 ?_
    refine xl_i (y := nI (i + 1)) (nI_add i 1) ?_
    refine va_sld hx hb hX hbl hbA hS (x_si (k := 1) (by decide) hi hL) dL_law_1187 ?_
    refine xl_i (y := xs (i + 1)) (congrArg xs (x_sc (k := 1) (by decide) hi hL)) ?_
    refine xl_i (y := 2) eq1 ?_
    refine lv_aload_n hx hb dL_law_1188 rfl (lv_at hl 3 rfl) ?_
    refine lv_iload_n hx hb dL_law_1189 rfl (lv_at hl 0 rfl) ?_
    refine lv_iconst (v := 2) hx hb dL_law_1190 (by decide) ?_
    refine lv_iadd hx hb dL_law_1191 ?_
    refine xl_i (y := nI (i + 2)) (nI_add i 2) ?_
    refine va_sld hx hb hX hbl hbA hS (x_si (k := 2) (by decide) hi hL) dL_law_1192 ?_
    refine xl_i (y := xs (i + 2)) (congrArg xs (x_sc (k := 2) (by decide) hi hL)) ?_
    refine lv_aload_n hx hb dL_law_1193 rfl (lv_at hl 3 rfl) ?_
    refine lv_iload_n hx hb dL_law_1194 rfl (lv_at hl 0 rfl) ?_
    refine lv_iconst (v := 3) hx hb dL_law_1195 (by decide) ?_
    refine lv_iadd hx hb dL_law_1196 ?_
    refine xl_i (y := nI (i + 3)) (nI_add i 3) ?_
    refine va_sld hx hb hX hbl hbA hS (x_si (k := 3) (by decide) hi hL) dL_law_1197 ?_
    refine xl_i (y := xs (i + 3)) (congrArg xs (x_sc (k := 3) (by decide) hi hL)) ?_
    refine xc_ViT (wr := [(h0, .inr (8, [.ref qh, .ref qk, .ref qd, .int b0, .ref qa, .ref qm, .ref qs, .ref qp, .ref ql, .ref qt, .ref qz, .ref qf])), (qz, .inl (cS, 4, .inr (.inr (.inr (.inr (xSh s0 s1 s2 s3)))))), (s0, .inr (4, [.int bt0, .int (nI (sz0)), .ref sn0])), (s1, .inr (4, [.int bt1, .int (nI (sz1)), .ref sn1])), (s2, .inr (4, [.int (sp_sb (xs (i + 2)) (xs (i + 3)) bt2), .int (nI ((sp_sz (xs (i + 2)) (xs (i + 3)) sz2))), .ref sn2])), (s3, .inr (4, [.int bt3, .int (nI (sz3)), .ref sn3])), (sn0, .inl (cJ, 40, .inr (.inl nu0))), (sn1, .inl (cJ, 40, .inr (.inl nu1))), (sn2, .inl (cJ, 40, .inr (.inl nv_50))), (sn3, .inl (cJ, 40, .inr (.inl nu3))), (qf, .inl (cI, 7, .inl f2_51))]) hF (c_X9_sheet_2 l D cI cJ cZ cS ta sa sv H.size g0 m_ys m_yk m_yo m_yt b0 m_yfa m_yfe m_mL m_mS m_mM m_yro m_yhe m_ygr m_mF m_mC m_mY m_yta z m_mf m_mt m_mv m_mw m_ywa m_ybi m_ysi m_ynu m_ymo m_bi m_sq m_nb m_mq (xs (i + 2)) (xs (i + 3)) sz2 r_z2 hsz2 m_hsq) kv_L_158 ⟨rfl, rfl, Nat.le_of_ble_eq_true rfl, Nat.le_of_ble_eq_true rfl⟩ ⟨Nat.le_of_ble_eq_true rfl, Nat.le_of_ble_eq_true rfl⟩ hK hN hZ hP hD hS hA [0, 2, 3, 4, 1] [5, 6, 7, 8, 9, 10, 11, 12, 13, 14, 15] rfl rfl rfl rfl (by decide) 0 rfl rfl rfl rfl hl.1 rfl (Nat.le_of_ble_eq_true rfl) dL_law_1198 (fun r_56 u_r_56 H locs hw_r_56 hP hD hS => ?_)
    obtain ⟨bi2_57, sq2_58, nb2_59, mq2_60⟩ := u_r_56
    try dsimp only at hw_r_56
    obtain ⟨hw_r_56, i_61, i_62, i_63, i_64, i_65, i_66, i_67⟩ := hw_r_56
    have hP : va_P D vwCl ([(h0, .inr (8, [.ref qh, .ref qk, .ref qd, .int b0, .ref qa, .ref qm, .ref qs, .ref qp, .ref ql, .ref qt, .ref qz, .ref qf])), (qz, .inl (cS, 4, .inr (.inr (.inr (.inr (xSh s0 s1 s2 s3)))))), (s0, .inr (4, [.int bt0, .int (nI (sz0)), .ref sn0])), (s1, .inr (4, [.int bt1, .int (nI (sz1)), .ref sn1])), (s2, .inr (4, [.int (sp_sb (xs (i + 2)) (xs (i + 3)) bt2), .int (nI ((sp_sz (xs (i + 2)) (xs (i + 3)) sz2))), .ref sn2])), (s3, .inr (4, [.int bt3, .int (nI (sz3)), .ref sn3])), (sn0, .inl (cJ, 40, .inr (.inl nu0))), (sn1, .inl (cJ, 40, .inr (.inl nu1))), (sn2, .inl (cJ, 40, .inr (.inl nv_50))), (sn3, .inl (cJ, 40, .inr (.inl nu3))), (qf, .inl (cI, 7, .inl f2_51)), (g0, .inr (9, [.ref m_ys, .ref m_yk, .ref m_yo, .ref m_yt, .int b0, .ref m_yfa, .ref m_yfe, .int m_mL, .int m_mS, .int m_mM, .ref m_yro, .ref m_yhe, .ref m_ygr, .int m_mF, .int m_mC, .int m_mY, .ref m_yta, .int (nI (z)), .int (nI (m_mf)), .int (nI (m_mt)), .int m_mv, .int m_mw, .ref m_ywa, .ref m_ybi, .ref m_ysi, .ref m_ynu, .ref m_ymo])), (m_ybi, .inl (cI, 4, .inl bi2_57)), (m_ysi, .inl (cI, 4, .inl sq2_58)), (m_ynu, .inl (cJ, 160, .inr (.inl nb2_59))), (m_yt, .inl (cI, 7, .inl mq2_60))] ++ tl) H := hP
    have hD : va_D A ([(h0, .inr (8, [.ref qh, .ref qk, .ref qd, .int b0, .ref qa, .ref qm, .ref qs, .ref qp, .ref ql, .ref qt, .ref qz, .ref qf])), (qz, .inl (cS, 4, .inr (.inr (.inr (.inr (xSh s0 s1 s2 s3)))))), (s0, .inr (4, [.int bt0, .int (nI (sz0)), .ref sn0])), (s1, .inr (4, [.int bt1, .int (nI (sz1)), .ref sn1])), (s2, .inr (4, [.int (sp_sb (xs (i + 2)) (xs (i + 3)) bt2), .int (nI ((sp_sz (xs (i + 2)) (xs (i + 3)) sz2))), .ref sn2])), (s3, .inr (4, [.int bt3, .int (nI (sz3)), .ref sn3])), (sn0, .inl (cJ, 40, .inr (.inl nu0))), (sn1, .inl (cJ, 40, .inr (.inl nu1))), (sn2, .inl (cJ, 40, .inr (.inl nv_50))), (sn3, .inl (cJ, 40, .inr (.inl nu3))), (qf, .inl (cI, 7, .inl f2_51)), (g0, .inr (9, [.ref m_ys, .ref m_yk, .ref m_yo, .ref m_yt, .int b0, .ref m_yfa, .ref m_yfe, .int m_mL, .int m_mS, .int m_mM, .ref m_yro, .ref m_yhe, .ref m_ygr, .int m_mF, .int m_mC, .int m_mY, .ref m_yta, .int (nI (z)), .int (nI (m_mf)), .int (nI (m_mt)), .int m_mv, .int m_mw, .ref m_ywa, .ref m_ybi, .ref m_ysi, .ref m_ynu, .ref m_ymo])), (m_ybi, .inl (cI, 4, .inl bi2_57)), (m_ysi, .inl (cI, 4, .inl sq2_58)), (m_ynu, .inl (cJ, 160, .inr (.inl nb2_59))), (m_yt, .inl (cI, 7, .inl mq2_60))] ++ tl) := hD
    subst hw_r_56
    refine lv_pop hx hb dL_law_1201 rfl ?_
    refine lv_goto (tgt := 1483) hx hb dL_law_1202 (by decide) ?_
    exact kkx _ _ _ bt0 sz0 bt1 sz1 (sp_sb (xs (i + 2)) (xs (i + 3)) bt2) (sp_sz (xs (i + 2)) (xs (i + 3)) sz2) bt3 sz3 nu0 nu1 nv_50 nu3 f2_51 mq2_60 bi2_57 sq2_58 nb2_59 (xt_P hP [0, 1, 2, 3, 4, 5, 6, 7, 8, 9, 10, 11, 15, 12, 13, 14] rfl) (xt_D hD [0, 1, 2, 3, 4, 5, 6, 7, 8, 9, 10, 11, 15, 12, 13, 14] (by decide +kernel) rfl) hsz0 hsz1 i_55 hsz3 ((i_62 0 (by decide)).trans r_b0) ((i_64 0 (by decide)).trans r_z0) (fun j hj => (i_66 (0 + j) (by omega)).trans (r_n0 j hj)) ((i_62 1 (by decide)).trans r_b1) ((i_64 1 (by decide)).trans r_z1) (fun j hj => (i_66 (40 + j) (by omega)).trans (r_n1 j hj)) (i_61.trans (congrArg (sp_sb _ _) r_b2)) i_63 (fun j hj => by rw [i_65 j hj, r_n2 j hj, i_54 j hj]) ((i_62 3 (by decide)).trans r_b3) ((i_64 3 (by decide)).trans r_z3) (fun j hj => (i_66 (120 + j) (by omega)).trans (r_n3 j hj)) i_67 hS hl
  · skip
    refine lv_aload_n hx hb dL_law_1162 rfl (lv_at hl 2 rfl) ?_
    refine lv_aload_n hx hb dL_law_1163 rfl (lv_at hl 3 rfl) ?_
    refine lv_iload_n hx hb dL_law_1164 rfl (lv_at hl 0 rfl) ?_
    refine lv_iconst (v := 1) hx hb dL_law_1165 (by decide) ?_
    refine lv_iadd hx hb dL_law_1166 ?_
    refine xl_i (y := nI (i + 1)) (nI_add i 1) ?_
    refine va_sld hx hb hX hbl hbA hS (x_si (k := 1) (by decide) hi hL) dL_law_1167 ?_
    refine xl_i (y := xs (i + 1)) (congrArg xs (x_sc (k := 1) (by decide) hi hL)) ?_
    refine xl_i (y := 3) eq1 ?_
    refine lv_aload_n hx hb dL_law_1168 rfl (lv_at hl 3 rfl) ?_
    refine lv_iload_n hx hb dL_law_1169 rfl (lv_at hl 0 rfl) ?_
    refine lv_iconst (v := 2) hx hb dL_law_1170 (by decide) ?_
    refine lv_iadd hx hb dL_law_1171 ?_
    refine xl_i (y := nI (i + 2)) (nI_add i 2) ?_
    refine va_sld hx hb hX hbl hbA hS (x_si (k := 2) (by decide) hi hL) dL_law_1172 ?_
    refine xl_i (y := xs (i + 2)) (congrArg xs (x_sc (k := 2) (by decide) hi hL)) ?_
    refine lv_aload_n hx hb dL_law_1173 rfl (lv_at hl 3 rfl) ?_
    refine lv_iload_n hx hb dL_law_1174 rfl (lv_at hl 0 rfl) ?_
    refine lv_iconst (v := 3) hx hb dL_law_1175 (by decide) ?_
    refine lv_iadd hx hb dL_law_1176 ?_
    refine xl_i (y := nI (i + 3)) (nI_add i 3) ?_
    refine va_sld hx hb hX hbl hbA hS (x_si (k := 3) (by decide) hi hL) dL_law_1177 ?_
    refine xl_i (y := xs (i + 3)) (congrArg xs (x_sc (k := 3) (by decide) hi hL)) ?_
    refine xc_ViT (wr := [(g0, .inr (9, [.ref m_ys, .ref m_yk, .ref m_yo, .ref m_yt, .int b0, .ref m_yfa, .ref m_yfe, .int m_mL, .int m_mS, .int m_mM, .ref m_yro, .ref m_yhe, .ref m_ygr, .int m_mF, .int m_mC, .int m_mY, .ref m_yta, .int (nI (z)), .int (nI (m_mf)), .int (nI (m_mt)), .int m_mv, .int m_mw, .ref m_ywa, .ref m_ybi, .ref m_ysi, .ref m_ynu, .ref m_ymo])), (m_yt, .inl (cI, 7, .inl m_mq)), (m_ybi, .inl (cI, 4, .inl m_bi)), (m_ysi, .inl (cI, 4, .inl m_sq)), (m_ynu, .inl (cJ, 160, .inr (.inl m_nb)))]) hF (c_X8_sheet_3 l D cI cJ cZ cS ta sa sv H.size h0 qh qk qd b0 qa qm qs qp ql qt qz qf s0 s1 s2 s3 bt0 sz0 sn0 bt1 sz1 sn1 bt2 sz2 sn2 bt3 sz3 sn3 nu0 nu1 nu2 nu3 ff (xs (i + 2)) (xs (i + 3)) hsz0 hsz1 hsz2 hsz3) kv_L_155 ⟨rfl, rfl, Nat.le_of_ble_eq_true rfl, Nat.le_of_ble_eq_true rfl⟩ ⟨Nat.le_of_ble_eq_true rfl, Nat.le_of_ble_eq_true rfl⟩ hK hN hZ hP hD hS hA [0, 1, 2, 3, 4, 5, 6, 7, 8, 9, 10] [11, 12, 13, 14, 15] rfl rfl rfl rfl (by decide) 0 rfl rfl rfl rfl hl.1 rfl (Nat.le_of_ble_eq_true rfl) dL_law_1178 (fun r_68 u_r_68 H locs hw_r_68 hP hD hS => ?_)
    obtain ⟨bu_69, sy_70, nv_71, f2_72⟩ := u_r_68
    try dsimp only at hw_r_68
    obtain ⟨hw_r_68, i_73, i_74, i_75, i_76⟩ := hw_r_68
    subst i_73
    subst i_74
    have hP : va_P D vwCl ([(g0, .inr (9, [.ref m_ys, .ref m_yk, .ref m_yo, .ref m_yt, .int b0, .ref m_yfa, .ref m_yfe, .int m_mL, .int m_mS, .int m_mM, .ref m_yro, .ref m_yhe, .ref m_ygr, .int m_mF, .int m_mC, .int m_mY, .ref m_yta, .int (nI (z)), .int (nI (m_mf)), .int (nI (m_mt)), .int m_mv, .int m_mw, .ref m_ywa, .ref m_ybi, .ref m_ysi, .ref m_ynu, .ref m_ymo])), (m_yt, .inl (cI, 7, .inl m_mq)), (m_ybi, .inl (cI, 4, .inl m_bi)), (m_ysi, .inl (cI, 4, .inl m_sq)), (m_ynu, .inl (cJ, 160, .inr (.inl m_nb))), (h0, .inr (8, [.ref qh, .ref qk, .ref qd, .int b0, .ref qa, .ref qm, .ref qs, .ref qp, .ref ql, .ref qt, .ref qz, .ref qf])), (qz, .inl (cS, 4, .inr (.inr (.inr (.inr (xSh s0 s1 s2 s3)))))), (s0, .inr (4, [.int bt0, .int (nI (sz0)), .ref sn0])), (s1, .inr (4, [.int bt1, .int (nI (sz1)), .ref sn1])), (s2, .inr (4, [.int bt2, .int (nI (sz2)), .ref sn2])), (s3, .inr (4, [.int (sp_sb (xs (i + 2)) (xs (i + 3)) bt3), .int (nI ((sp_sz (xs (i + 2)) (xs (i + 3)) sz3))), .ref sn3])), (sn0, .inl (cJ, 40, .inr (.inl nu0))), (sn1, .inl (cJ, 40, .inr (.inl nu1))), (sn2, .inl (cJ, 40, .inr (.inl nu2))), (sn3, .inl (cJ, 40, .inr (.inl nv_71))), (qf, .inl (cI, 7, .inl f2_72))] ++ tl) H := hP
    have hD : va_D A ([(g0, .inr (9, [.ref m_ys, .ref m_yk, .ref m_yo, .ref m_yt, .int b0, .ref m_yfa, .ref m_yfe, .int m_mL, .int m_mS, .int m_mM, .ref m_yro, .ref m_yhe, .ref m_ygr, .int m_mF, .int m_mC, .int m_mY, .ref m_yta, .int (nI (z)), .int (nI (m_mf)), .int (nI (m_mt)), .int m_mv, .int m_mw, .ref m_ywa, .ref m_ybi, .ref m_ysi, .ref m_ynu, .ref m_ymo])), (m_yt, .inl (cI, 7, .inl m_mq)), (m_ybi, .inl (cI, 4, .inl m_bi)), (m_ysi, .inl (cI, 4, .inl m_sq)), (m_ynu, .inl (cJ, 160, .inr (.inl m_nb))), (h0, .inr (8, [.ref qh, .ref qk, .ref qd, .int b0, .ref qa, .ref qm, .ref qs, .ref qp, .ref ql, .ref qt, .ref qz, .ref qf])), (qz, .inl (cS, 4, .inr (.inr (.inr (.inr (xSh s0 s1 s2 s3)))))), (s0, .inr (4, [.int bt0, .int (nI (sz0)), .ref sn0])), (s1, .inr (4, [.int bt1, .int (nI (sz1)), .ref sn1])), (s2, .inr (4, [.int bt2, .int (nI (sz2)), .ref sn2])), (s3, .inr (4, [.int (sp_sb (xs (i + 2)) (xs (i + 3)) bt3), .int (nI ((sp_sz (xs (i + 2)) (xs (i + 3)) sz3))), .ref sn3])), (sn0, .inl (cJ, 40, .inr (.inl nu0))), (sn1, .inl (cJ, 40, .inr (.inl nu1))), (sn2, .inl (cJ, 40, .inr (.inl nu2))), (sn3, .inl (cJ, 40, .inr (.inl nv_71))), (qf, .inl (cI, 7, .inl f2_72))] ++ tl) := hD
    subst hw_r_68
    refine lv_pop hx hb dL_law_1181 rfl ?_
    refine lv_aload_n hx hb dL_law_1182 rfl (lv_at hl 1 rfl) ?_
    refine lv_aload_n hx hb dL_law_1183 rfl (lv_at hl 3 rfl) ?_
    refine lv_iload_n hx hb dL_law_1184 rfl (lv_at hl 0 rfl) ?_
    refine lv_iconst (v := 1) hx hb dL_law_1185 (by decide) ?_
    refine lv_iadd hx hb dL_law_1186 ?_
    refine xl_i (y := nI (i + 1)) (nI_add i 1) ?_
    refine va_sld hx hb hX hbl hbA hS (x_si (k := 1) (by decide) hi hL) dL_law_1187 ?_
    refine xl_i (y := xs (i + 1)) (congrArg xs (x_sc (k := 1) (by decide) hi hL)) ?_
    refine xl_i (y := 3) eq1 ?_
    refine lv_aload_n hx hb dL_law_1188 rfl (lv_at hl 3 rfl) ?_
    refine lv_iload_n hx hb dL_law_1189 rfl (lv_at hl 0 rfl) ?_
    refine lv_iconst (v := 2) hx hb dL_law_1190 (by decide) ?_
    refine lv_iadd hx hb dL_law_1191 ?_
    refine xl_i (y := nI (i + 2)) (nI_add i 2) ?_
    refine va_sld hx hb hX hbl hbA hS (x_si (k := 2) (by decide) hi hL) dL_law_1192 ?_
    refine xl_i (y := xs (i + 2)) (congrArg xs (x_sc (k := 2) (by decide) hi hL)) ?_
    refine lv_aload_n hx hb dL_law_1193 rfl (lv_at hl 3 rfl) ?_
    refine lv_iload_n hx hb dL_law_1194 rfl (lv_at hl 0 rfl) ?_
    refine lv_iconst (v := 3) hx hb dL_law_1195 (by decide) ?_
    refine lv_iadd hx hb dL_law_1196 ?_
    refine xl_i (y := nI (i + 3)) (nI_add i 3) ?_
    refine va_sld hx hb hX hbl hbA hS (x_si (k := 3) (by decide) hi hL) dL_law_1197 ?_
    refine xl_i (y := xs (i + 3)) (congrArg xs (x_sc (k := 3) (by decide) hi hL)) ?_
    refine xc_ViT (wr := [(h0, .inr (8, [.ref qh, .ref qk, .ref qd, .int b0, .ref qa, .ref qm, .ref qs, .ref qp, .ref ql, .ref qt, .ref qz, .ref qf])), (qz, .inl (cS, 4, .inr (.inr (.inr (.inr (xSh s0 s1 s2 s3)))))), (s0, .inr (4, [.int bt0, .int (nI (sz0)), .ref sn0])), (s1, .inr (4, [.int bt1, .int (nI (sz1)), .ref sn1])), (s2, .inr (4, [.int bt2, .int (nI (sz2)), .ref sn2])), (s3, .inr (4, [.int (sp_sb (xs (i + 2)) (xs (i + 3)) bt3), .int (nI ((sp_sz (xs (i + 2)) (xs (i + 3)) sz3))), .ref sn3])), (sn0, .inl (cJ, 40, .inr (.inl nu0))), (sn1, .inl (cJ, 40, .inr (.inl nu1))), (sn2, .inl (cJ, 40, .inr (.inl nu2))), (sn3, .inl (cJ, 40, .inr (.inl nv_71))), (qf, .inl (cI, 7, .inl f2_72))]) hF (c_X9_sheet_3 l D cI cJ cZ cS ta sa sv H.size g0 m_ys m_yk m_yo m_yt b0 m_yfa m_yfe m_mL m_mS m_mM m_yro m_yhe m_ygr m_mF m_mC m_mY m_yta z m_mf m_mt m_mv m_mw m_ywa m_ybi m_ysi m_ynu m_ymo m_bi m_sq m_nb m_mq (xs (i + 2)) (xs (i + 3)) sz3 r_z3 hsz3 m_hsq) kv_L_158 ⟨rfl, rfl, Nat.le_of_ble_eq_true rfl, Nat.le_of_ble_eq_true rfl⟩ ⟨Nat.le_of_ble_eq_true rfl, Nat.le_of_ble_eq_true rfl⟩ hK hN hZ hP hD hS hA [0, 2, 3, 4, 1] [5, 6, 7, 8, 9, 10, 11, 12, 13, 14, 15] rfl rfl rfl rfl (by decide) 0 rfl rfl rfl rfl hl.1 rfl (Nat.le_of_ble_eq_true rfl) dL_law_1198 (fun r_77 u_r_77 H locs hw_r_77 hP hD hS => ?_)
    obtain ⟨bi2_78, sq2_79, nb2_80, mq2_81⟩ := u_r_77
    try dsimp only at hw_r_77
    obtain ⟨hw_r_77, i_82, i_83, i_84, i_85, i_86, i_87, i_88⟩ := hw_r_77
    have hP : va_P D vwCl ([(h0, .inr (8, [.ref qh, .ref qk, .ref qd, .int b0, .ref qa, .ref qm, .ref qs, .ref qp, .ref ql, .ref qt, .ref qz, .ref qf])), (qz, .inl (cS, 4, .inr (.inr (.inr (.inr (xSh s0 s1 s2 s3)))))), (s0, .inr (4, [.int bt0, .int (nI (sz0)), .ref sn0])), (s1, .inr (4, [.int bt1, .int (nI (sz1)), .ref sn1])), (s2, .inr (4, [.int bt2, .int (nI (sz2)), .ref sn2])), (s3, .inr (4, [.int (sp_sb (xs (i + 2)) (xs (i + 3)) bt3), .int (nI ((sp_sz (xs (i + 2)) (xs (i + 3)) sz3))), .ref sn3])), (sn0, .inl (cJ, 40, .inr (.inl nu0))), (sn1, .inl (cJ, 40, .inr (.inl nu1))), (sn2, .inl (cJ, 40, .inr (.inl nu2))), (sn3, .inl (cJ, 40, .inr (.inl nv_71))), (qf, .inl (cI, 7, .inl f2_72)), (g0, .inr (9, [.ref m_ys, .ref m_yk, .ref m_yo, .ref m_yt, .int b0, .ref m_yfa, .ref m_yfe, .int m_mL, .int m_mS, .int m_mM, .ref m_yro, .ref m_yhe, .ref m_ygr, .int m_mF, .int m_mC, .int m_mY, .ref m_yta, .int (nI (z)), .int (nI (m_mf)), .int (nI (m_mt)), .int m_mv, .int m_mw, .ref m_ywa, .ref m_ybi, .ref m_ysi, .ref m_ynu, .ref m_ymo])), (m_ybi, .inl (cI, 4, .inl bi2_78)), (m_ysi, .inl (cI, 4, .inl sq2_79)), (m_ynu, .inl (cJ, 160, .inr (.inl nb2_80))), (m_yt, .inl (cI, 7, .inl mq2_81))] ++ tl) H := hP
    have hD : va_D A ([(h0, .inr (8, [.ref qh, .ref qk, .ref qd, .int b0, .ref qa, .ref qm, .ref qs, .ref qp, .ref ql, .ref qt, .ref qz, .ref qf])), (qz, .inl (cS, 4, .inr (.inr (.inr (.inr (xSh s0 s1 s2 s3)))))), (s0, .inr (4, [.int bt0, .int (nI (sz0)), .ref sn0])), (s1, .inr (4, [.int bt1, .int (nI (sz1)), .ref sn1])), (s2, .inr (4, [.int bt2, .int (nI (sz2)), .ref sn2])), (s3, .inr (4, [.int (sp_sb (xs (i + 2)) (xs (i + 3)) bt3), .int (nI ((sp_sz (xs (i + 2)) (xs (i + 3)) sz3))), .ref sn3])), (sn0, .inl (cJ, 40, .inr (.inl nu0))), (sn1, .inl (cJ, 40, .inr (.inl nu1))), (sn2, .inl (cJ, 40, .inr (.inl nu2))), (sn3, .inl (cJ, 40, .inr (.inl nv_71))), (qf, .inl (cI, 7, .inl f2_72)), (g0, .inr (9, [.ref m_ys, .ref m_yk, .ref m_yo, .ref m_yt, .int b0, .ref m_yfa, .ref m_yfe, .int m_mL, .int m_mS, .int m_mM, .ref m_yro, .ref m_yhe, .ref m_ygr, .int m_mF, .int m_mC, .int m_mY, .ref m_yta, .int (nI (z)), .int (nI (m_mf)), .int (nI (m_mt)), .int m_mv, .int m_mw, .ref m_ywa, .ref m_ybi, .ref m_ysi, .ref m_ynu, .ref m_ymo])), (m_ybi, .inl (cI, 4, .inl bi2_78)), (m_ysi, .inl (cI, 4, .inl sq2_79)), (m_ynu, .inl (cJ, 160, .inr (.inl nb2_80))), (m_yt, .inl (cI, 7, .inl mq2_81))] ++ tl) := hD
    subst hw_r_77
    refine lv_pop hx hb dL_law_1201 rfl ?_
    refine lv_goto (tgt := 1483) hx hb dL_law_1202 (by decide) ?_
    exact kkx _ _ _ bt0 sz0 bt1 sz1 bt2 sz2 (sp_sb (xs (i + 2)) (xs (i + 3)) bt3) (sp_sz (xs (i + 2)) (xs (i + 3)) sz3) nu0 nu1 nu2 nv_71 f2_72 mq2_81 bi2_78 sq2_79 nb2_80 (xt_P hP [0, 1, 2, 3, 4, 5, 6, 7, 8, 9, 10, 11, 15, 12, 13, 14] rfl) (xt_D hD [0, 1, 2, 3, 4, 5, 6, 7, 8, 9, 10, 11, 15, 12, 13, 14] (by decide +kernel) rfl) hsz0 hsz1 hsz2 i_76 ((i_83 0 (by decide)).trans r_b0) ((i_85 0 (by decide)).trans r_z0) (fun j hj => (i_87 (0 + j) (by omega)).trans (r_n0 j hj)) ((i_83 1 (by decide)).trans r_b1) ((i_85 1 (by decide)).trans r_z1) (fun j hj => (i_87 (40 + j) (by omega)).trans (r_n1 j hj)) ((i_83 2 (by decide)).trans r_b2) ((i_85 2 (by decide)).trans r_z2) (fun j hj => (i_87 (80 + j) (by omega)).trans (r_n2 j hj)) (i_82.trans (congrArg (sp_sb _ _) r_b3)) i_84 (fun j hj => by rw [i_86 j hj, r_n3 j hj, i_75 j hj]) i_88 hS hl
set_option maxHeartbeats 4000000 in
set_option maxRecDepth 100000 in
theorem law_35 {p : Program} {e : Env} {s : State} {m : MethodId} {below : List Frame} {meth : Method} {c : Code} (l : Launch) (D : va_G) (cI cJ cZ cS : ClassId) (ta : Nat) (sa sv : Nat → Nat) {b L : Nat} {xs : Nat → Int32} {A : Nat → Prop} (hL : L ≤ 3072) (hF : CallFix p m c cL_law 4 s #[Value.ref b] (Cond.initialized RX8 :: wsU) RL) (hr : meth.sig.returnType = ret) (hlk : meth.locks = false) (hK : va_K D vwCl (xT cI cJ cZ cS) s) (hN : XN sa s) (hX : va_X b L xs s s.heap) (hbl : b < s.heap.size) (hA : ∀ q : Nat, s.heap.size ≤ q → A q) (hbA : ¬ A b) (hAs : ∀ q, A q → s.heap.size ≤ q) (hZ : ST ta sa sv A s s.heap) (h0 g0 i : Nat) (hi : i + 6 ≤ L) (qh : Nat) (qk : Nat) (qd : Nat) (b0 : Int32) (qa : Nat) (qm : Nat) (qs : Nat) (qp : Nat) (ql : Nat) (qt : Nat) (qz : Nat) (qf : Nat) (s0 : Nat) (s1 : Nat) (s2 : Nat) (s3 : Nat) (bt0 : Int32) (sz0 : Nat) (sn0 : Nat) (bt1 : Int32) (sz1 : Nat) (sn1 : Nat) (bt2 : Int32) (sz2 : Nat) (sn2 : Nat) (bt3 : Int32) (sz3 : Nat) (sn3 : Nat) (nu0 : Nat → Int64) (nu1 : Nat → Int64) (nu2 : Nat → Int64) (nu3 : Nat → Int64) (ff : Nat → Int32) (m_ys : Nat) (m_yk : Nat) (m_yo : Nat) (m_yt : Nat) (m_yfa : Nat) (m_yfe : Nat) (m_mL : Int32) (m_mS : Int32) (m_mM : Int32) (m_yro : Nat) (m_yhe : Nat) (m_ygr : Nat) (m_mF : Int32) (m_mC : Int32) (m_mY : Int32) (m_yta : Nat) (z : Nat) (m_mf : Nat) (m_mt : Nat) (m_mv : Int32) (m_mw : Int32) (m_ywa : Nat) (m_ybi : Nat) (m_ysi : Nat) (m_ynu : Nat) (m_ymo : Nat) (m_mq : Nat → Int32) (m_bi : Nat → Int32) (m_sq : Nat → Int32) (m_nb : Nat → Int64) {tl : va_W} {H : Heap} {locs : List Loc} {ls : Array Slot} (hP : va_P D vwCl ([(h0, .inr (8, [.ref qh, .ref qk, .ref qd, .int b0, .ref qa, .ref qm, .ref qs, .ref qp, .ref ql, .ref qt, .ref qz, .ref qf])), (qz, .inl (cS, 4, .inr (.inr (.inr (.inr (xSh s0 s1 s2 s3)))))), (s0, .inr (4, [.int bt0, .int (nI (sz0)), .ref sn0])), (s1, .inr (4, [.int bt1, .int (nI (sz1)), .ref sn1])), (s2, .inr (4, [.int bt2, .int (nI (sz2)), .ref sn2])), (s3, .inr (4, [.int bt3, .int (nI (sz3)), .ref sn3])), (sn0, .inl (cJ, 40, .inr (.inl nu0))), (sn1, .inl (cJ, 40, .inr (.inl nu1))), (sn2, .inl (cJ, 40, .inr (.inl nu2))), (sn3, .inl (cJ, 40, .inr (.inl nu3))), (qf, .inl (cI, 7, .inl ff)), (g0, .inr (9, [.ref m_ys, .ref m_yk, .ref m_yo, .ref m_yt, .int b0, .ref m_yfa, .ref m_yfe, .int m_mL, .int m_mS, .int m_mM, .ref m_yro, .ref m_yhe, .ref m_ygr, .int m_mF, .int m_mC, .int m_mY, .ref m_yta, .int (nI (z)), .int (nI (m_mf)), .int (nI (m_mt)), .int m_mv, .int m_mw, .ref m_ywa, .ref m_ybi, .ref m_ysi, .ref m_ynu, .ref m_ymo])), (m_yt, .inl (cI, 7, .inl m_mq)), (m_ybi, .inl (cI, 4, .inl m_bi)), (m_ysi, .inl (cI, 4, .inl m_sq)), (m_ynu, .inl (cJ, 160, .inr (.inl m_nb)))] ++ tl) H) (hD : va_D A ([(h0, .inr (8, [.ref qh, .ref qk, .ref qd, .int b0, .ref qa, .ref qm, .ref qs, .ref qp, .ref ql, .ref qt, .ref qz, .ref qf])), (qz, .inl (cS, 4, .inr (.inr (.inr (.inr (xSh s0 s1 s2 s3)))))), (s0, .inr (4, [.int bt0, .int (nI (sz0)), .ref sn0])), (s1, .inr (4, [.int bt1, .int (nI (sz1)), .ref sn1])), (s2, .inr (4, [.int bt2, .int (nI (sz2)), .ref sn2])), (s3, .inr (4, [.int bt3, .int (nI (sz3)), .ref sn3])), (sn0, .inl (cJ, 40, .inr (.inl nu0))), (sn1, .inl (cJ, 40, .inr (.inl nu1))), (sn2, .inl (cJ, 40, .inr (.inl nu2))), (sn3, .inl (cJ, 40, .inr (.inl nu3))), (qf, .inl (cI, 7, .inl ff)), (g0, .inr (9, [.ref m_ys, .ref m_yk, .ref m_yo, .ref m_yt, .int b0, .ref m_yfa, .ref m_yfe, .int m_mL, .int m_mS, .int m_mM, .ref m_yro, .ref m_yhe, .ref m_ygr, .int m_mF, .int m_mC, .int m_mY, .ref m_yta, .int (nI (z)), .int (nI (m_mf)), .int (nI (m_mt)), .int m_mv, .int m_mw, .ref m_ywa, .ref m_ybi, .ref m_ysi, .ref m_ynu, .ref m_ymo])), (m_yt, .inl (cI, 7, .inl m_mq)), (m_ybi, .inl (cI, 4, .inl m_bi)), (m_ysi, .inl (cI, 4, .inl m_sq)), (m_ynu, .inl (cJ, 160, .inr (.inl m_nb)))] ++ tl)) (hz : z ≤ 120) (hsz0 : sz0 ≤ 40) (hsz1 : sz1 ≤ 40) (hsz2 : sz2 ≤ 40) (hsz3 : sz3 ≤ 40) (r_b0 : m_bi 0 = bt0) (r_z0 : m_sq 0 = nI sz0) (r_n0 : ∀ j, j < 40 → m_nb (0 + j) = nu0 j) (r_b1 : m_bi 1 = bt1) (r_z1 : m_sq 1 = nI sz1) (r_n1 : ∀ j, j < 40 → m_nb (40 + j) = nu1 j) (r_b2 : m_bi 2 = bt2) (r_z2 : m_sq 2 = nI sz2) (r_n2 : ∀ j, j < 40 → m_nb (80 + j) = nu2 j) (r_b3 : m_bi 3 = bt3) (r_z3 : m_sq 3 = nI sz3) (r_n3 : ∀ j, j < 40 → m_nb (120 + j) = nu3 j) (m_hsq : BA 4 41 m_sq) (hS : va_S A s.heap H locs) (hl : lv_has ls 4 [(3, .int (nI i)), (2, .ref g0), (1, .ref h0), (0, .ref b)]) (kkx : ∀ (H : Heap) (locs : List Loc) (ls : Array Slot) (nu0_n : Nat → Int64) (nu1_n : Nat → Int64) (nu2_n : Nat → Int64) (nu3_n : Nat → Int64) (ff_n : Nat → Int32) (m_mq_n : Nat → Int32) (m_nb_n : Nat → Int64), va_P D vwCl ([(h0, .inr (8, [.ref qh, .ref qk, .ref qd, .int b0, .ref qa, .ref qm, .ref qs, .ref qp, .ref ql, .ref qt, .ref qz, .ref qf])), (qz, .inl (cS, 4, .inr (.inr (.inr (.inr (xSh s0 s1 s2 s3)))))), (s0, .inr (4, [.int bt0, .int (nI (sz0)), .ref sn0])), (s1, .inr (4, [.int bt1, .int (nI (sz1)), .ref sn1])), (s2, .inr (4, [.int bt2, .int (nI (sz2)), .ref sn2])), (s3, .inr (4, [.int bt3, .int (nI (sz3)), .ref sn3])), (sn0, .inl (cJ, 40, .inr (.inl nu0_n))), (sn1, .inl (cJ, 40, .inr (.inl nu1_n))), (sn2, .inl (cJ, 40, .inr (.inl nu2_n))), (sn3, .inl (cJ, 40, .inr (.inl nu3_n))), (qf, .inl (cI, 7, .inl ff_n)), (g0, .inr (9, [.ref m_ys, .ref m_yk, .ref m_yo, .ref m_yt, .int b0, .ref m_yfa, .ref m_yfe, .int m_mL, .int m_mS, .int m_mM, .ref m_yro, .ref m_yhe, .ref m_ygr, .int m_mF, .int m_mC, .int m_mY, .ref m_yta, .int (nI (z)), .int (nI (m_mf)), .int (nI (m_mt)), .int m_mv, .int m_mw, .ref m_ywa, .ref m_ybi, .ref m_ysi, .ref m_ynu, .ref m_ymo])), (m_yt, .inl (cI, 7, .inl m_mq_n)), (m_ybi, .inl (cI, 4, .inl m_bi)), (m_ysi, .inl (cI, 4, .inl m_sq)), (m_ynu, .inl (cJ, 160, .inr (.inl m_nb_n)))] ++ tl) H → va_D A ([(h0, .inr (8, [.ref qh, .ref qk, .ref qd, .int b0, .ref qa, .ref qm, .ref qs, .ref qp, .ref ql, .ref qt, .ref qz, .ref qf])), (qz, .inl (cS, 4, .inr (.inr (.inr (.inr (xSh s0 s1 s2 s3)))))), (s0, .inr (4, [.int bt0, .int (nI (sz0)), .ref sn0])), (s1, .inr (4, [.int bt1, .int (nI (sz1)), .ref sn1])), (s2, .inr (4, [.int bt2, .int (nI (sz2)), .ref sn2])), (s3, .inr (4, [.int bt3, .int (nI (sz3)), .ref sn3])), (sn0, .inl (cJ, 40, .inr (.inl nu0_n))), (sn1, .inl (cJ, 40, .inr (.inl nu1_n))), (sn2, .inl (cJ, 40, .inr (.inl nu2_n))), (sn3, .inl (cJ, 40, .inr (.inl nu3_n))), (qf, .inl (cI, 7, .inl ff_n)), (g0, .inr (9, [.ref m_ys, .ref m_yk, .ref m_yo, .ref m_yt, .int b0, .ref m_yfa, .ref m_yfe, .int m_mL, .int m_mS, .int m_mM, .ref m_yro, .ref m_yhe, .ref m_ygr, .int m_mF, .int m_mC, .int m_mY, .ref m_yta, .int (nI (z)), .int (nI (m_mf)), .int (nI (m_mt)), .int m_mv, .int m_mw, .ref m_ywa, .ref m_ybi, .ref m_ysi, .ref m_ynu, .ref m_ymo])), (m_yt, .inl (cI, 7, .inl m_mq_n)), (m_ybi, .inl (cI, 4, .inl m_bi)), (m_ysi, .inl (cI, 4, .inl m_sq)), (m_ynu, .inl (cJ, 160, .inr (.inl m_nb_n)))] ++ tl) → (∀ j, j < 40 → m_nb_n (0 + j) = nu0_n j) → (∀ j, j < 40 → m_nb_n (40 + j) = nu1_n j) → (∀ j, j < 40 → m_nb_n (80 + j) = nu2_n j) → (∀ j, j < 40 → m_nb_n (120 + j) = nu3_n j) → va_S A s.heap H locs → lv_has ls 4 [(3, .int (nI i)), (2, .ref g0), (1, .ref h0), (0, .ref b)] → W p l e room_1 s m #[Value.ref b] below meth c H locs 82 4273 (lw_Z below #[Value.ref b] s) (F0 m 1483 ls [])) : W p l e room_1 s m #[Value.ref b] below meth c H locs 82 4273 (lw_Z below #[Value.ref b] s) (F0 m 1205 ls []) := by
  have hx := hF.1
  have hb := hF.2.1
  have hml := hF.2.2.1
  have hown := hF.2.2.2.1
  have hu : ∀ w ∈ wsU, w.before _ s = true := fun w h => hF.2.2.2.2 w (List.mem_cons_of_mem _ h)
  rcases x_sh4 (xs (i + 1)) with oq1 | eq1 | eq1 | eq1 | eq1
  · skip
    refine lv_aload_n hx hb dL_law_1205 rfl (lv_at hl 2 rfl) ?_
    refine lv_aload_n hx hb dL_law_1206 rfl (lv_at hl 3 rfl) ?_
    refine lv_iload_n hx hb dL_law_1207 rfl (lv_at hl 0 rfl) ?_
    refine lv_iconst (v := 1) hx hb dL_law_1208 (by decide) ?_
    refine lv_iadd hx hb dL_law_1209 ?_
    refine xl_i (y := nI (i + 1)) (nI_add i 1) ?_
    refine va_sld hx hb hX hbl hbA hS (x_si (k := 1) (by decide) hi hL) dL_law_1210 ?_
    refine xl_i (y := xs (i + 1)) (congrArg xs (x_sc (k := 1) (by decide) hi hL)) ?_
    refine lv_aload_n hx hb dL_law_1211 rfl (lv_at hl 3 rfl) ?_
    refine lv_iload_n hx hb dL_law_1212 rfl (lv_at hl 0 rfl) ?_
    refine lv_iconst (v := 2) hx hb dL_law_1213 (by decide) ?_
    refine lv_iadd hx hb dL_law_1214 ?_
    refine xl_i (y := nI (i + 2)) (nI_add i 2) ?_
    refine va_sld hx hb hX hbl hbA hS (x_si (k := 2) (by decide) hi hL) dL_law_1215 ?_
    refine xl_i (y := xs (i + 2)) (congrArg xs (x_sc (k := 2) (by decide) hi hL)) ?_
    refine lv_aload_n hx hb dL_law_1216 rfl (lv_at hl 3 rfl) ?_
    refine lv_iload_n hx hb dL_law_1217 rfl (lv_at hl 0 rfl) ?_
    refine lv_iconst (v := 3) hx hb dL_law_1218 (by decide) ?_
    refine lv_iadd hx hb dL_law_1219 ?_
    refine xl_i (y := nI (i + 3)) (nI_add i 3) ?_
    refine va_sld hx hb hX hbl hbA hS (x_si (k := 3) (by decide) hi hL) dL_law_1220 ?_
    refine xl_i (y := xs (i + 3)) (congrArg xs (x_sc (k := 3) (by decide) hi hL)) ?_
    refine lv_i2l (v := (xs (i + 3)).toInt64) hx hb dL_law_1221 rfl ?_
    refine lv_bipush (v := 32) hx hb dL_law_1222 (by decide) ?_
    refine lv_lshl hx hb dL_law_1224 rfl ?_
    refine lv_topl (fun x_1 ex_1 => ?_)
    refine lv_aload_n hx hb dL_law_1225 rfl (lv_at hl 3 rfl) ?_
    refine lv_iload_n hx hb dL_law_1226 rfl (lv_at hl 0 rfl) ?_
    refine lv_iconst (v := 4) hx hb dL_law_1227 (by decide) ?_
    refine lv_iadd hx hb dL_law_1228 ?_
    refine xl_i (y := nI (i + 4)) (nI_add i 4) ?_
    refine va_sld hx hb hX hbl hbA hS (x_si (k := 4) (by decide) hi hL) dL_law_1229 ?_
    refine xl_i (y := xs (i + 4)) (congrArg xs (x_sc (k := 4) (by decide) hi hL)) ?_
    refine lv_i2l (v := (xs (i + 4)).toInt64) hx hb dL_law_1230 rfl ?_
    refine lv_ldc2 (v := 4294967295) hx hb hown (hu _ uw1261) dL_law_1231 ?_
    refine lv_land hx hb dL_law_1234 ?_
    refine lv_topl (fun x_2 ex_2 => ?_)
    refine lv_lor hx hb dL_law_1235 ?_
    refine lv_topl (fun x_3 ex_3 => ?_)
    refine xc_VlT (wr := [(qz, .inl (cS, 4, .inr (.inr (.inr (.inr (xSh s0 s1 s2 s3)))))), (s0, .inr (4, [.int bt0, .int (nI (sz0)), .ref sn0])), (s1, .inr (4, [.int bt1, .int (nI (sz1)), .ref sn1])), (s2, .inr (4, [.int bt2, .int (nI (sz2)), .ref sn2])), (s3, .inr (4, [.int bt3, .int (nI (sz3)), .ref sn3])), (sn0, .inl (cJ, 40, .inr (.inl nu0))), (sn1, .inl (cJ, 40, .inr (.inl nu1))), (sn2, .inl (cJ, 40, .inr (.inl nu2))), (sn3, .inl (cJ, 40, .inr (.inl nu3))), (g0, .inr (9, [.ref m_ys, .ref m_yk, .ref m_yo, .ref m_yt, .int b0, .ref m_yfa, .ref m_yfe, .int m_mL, .int m_mS, .int m_mM, .ref m_yro, .ref m_yhe, .ref m_ygr, .int m_mF, .int m_mC, .int m_mY, .ref m_yta, .int (nI (z)), .int (nI (m_mf)), .int (nI (m_mt)), .int m_mv, .int m_mw, .ref m_ywa, .ref m_ybi, .ref m_ysi, .ref m_ynu, .ref m_ymo])), (m_yt, .inl (cI, 7, .inl m_mq)), (m_ybi, .inl (cI, 4, .inl m_bi)), (m_ysi, .inl (cI, 4, .inl m_sq)), (m_ynu, .inl (cJ, 160, .inr (.inl m_nb)))]) hF (c_X8_write_o l D cI cJ cZ cS ta sa sv H.size h0 qh qk qd b0 qa qm qs qp ql qt qz qf ff (xs (i + 1)) (xs (i + 2)) x_3 oq1) kv_L_161 ⟨rfl, rfl, Nat.le_of_ble_eq_true rfl, Nat.le_of_ble_eq_true rfl⟩ ⟨Nat.le_of_ble_eq_true rfl, Nat.le_of_ble_eq_true rfl⟩ hK hN hZ hP hD hS hA [0, 10] [1, 2, 3, 4, 5, 6, 7, 8, 9, 11, 12, 13, 14, 15] rfl rfl rfl rfl (by decide) 0 rfl rfl rfl rfl hl.1 rfl (Nat.le_of_ble_eq_true rfl) dL_law_1236 (fun r_4 u_r_4 H locs hw_r_4 hP hD hS => ?_)
    obtain ⟨f2_5, rfl⟩ : ∃ z, z = u_r_4 := ⟨_, rfl⟩
    try dsimp only at hw_r_4
    have hP : va_P D vwCl ([(qz, .inl (cS, 4, .inr (.inr (.inr (.inr (xSh s0 s1 s2 s3)))))), (s0, .inr (4, [.int bt0, .int (nI (sz0)), .ref sn0])), (s1, .inr (4, [.int bt1, .int (nI (sz1)), .ref sn1])), (s2, .inr (4, [.int bt2, .int (nI (sz2)), .ref sn2])), (s3, .inr (4, [.int bt3, .int (nI (sz3)), .ref sn3])), (sn0, .inl (cJ, 40, .inr (.inl nu0))), (sn1, .inl (cJ, 40, .inr (.inl nu1))), (sn2, .inl (cJ, 40, .inr (.inl nu2))), (sn3, .inl (cJ, 40, .inr (.inl nu3))), (g0, .inr (9, [.ref m_ys, .ref m_yk, .ref m_yo, .ref m_yt, .int b0, .ref m_yfa, .ref m_yfe, .int m_mL, .int m_mS, .int m_mM, .ref m_yro, .ref m_yhe, .ref m_ygr, .int m_mF, .int m_mC, .int m_mY, .ref m_yta, .int (nI (z)), .int (nI (m_mf)), .int (nI (m_mt)), .int m_mv, .int m_mw, .ref m_ywa, .ref m_ybi, .ref m_ysi, .ref m_ynu, .ref m_ymo])), (m_yt, .inl (cI, 7, .inl m_mq)), (m_ybi, .inl (cI, 4, .inl m_bi)), (m_ysi, .inl (cI, 4, .inl m_sq)), (m_ynu, .inl (cJ, 160, .inr (.inl m_nb))), (h0, .inr (8, [.ref qh, .ref qk, .ref qd, .int b0, .ref qa, .ref qm, .ref qs, .ref qp, .ref ql, .ref qt, .ref qz, .ref qf])), (qf, .inl (cI, 7, .inl f2_5))] ++ tl) H := hP
    have hD : va_D A ([(qz, .inl (cS, 4, .inr (.inr (.inr (.inr (xSh s0 s1 s2 s3)))))), (s0, .inr (4, [.int bt0, .int (nI (sz0)), .ref sn0])), (s1, .inr (4, [.int bt1, .int (nI (sz1)), .ref sn1])), (s2, .inr (4, [.int bt2, .int (nI (sz2)), .ref sn2])), (s3, .inr (4, [.int bt3, .int (nI (sz3)), .ref sn3])), (sn0, .inl (cJ, 40, .inr (.inl nu0))), (sn1, .inl (cJ, 40, .inr (.inl nu1))), (sn2, .inl (cJ, 40, .inr (.inl nu2))), (sn3, .inl (cJ, 40, .inr (.inl nu3))), (g0, .inr (9, [.ref m_ys, .ref m_yk, .ref m_yo, .ref m_yt, .int b0, .ref m_yfa, .ref m_yfe, .int m_mL, .int m_mS, .int m_mM, .ref m_yro, .ref m_yhe, .ref m_ygr, .int m_mF, .int m_mC, .int m_mY, .ref m_yta, .int (nI (z)), .int (nI (m_mf)), .int (nI (m_mt)), .int m_mv, .int m_mw, .ref m_ywa, .ref m_ybi, .ref m_ysi, .ref m_ynu, .ref m_ymo])), (m_yt, .inl (cI, 7, .inl m_mq)), (m_ybi, .inl (cI, 4, .inl m_bi)), (m_ysi, .inl (cI, 4, .inl m_sq)), (m_ynu, .inl (cJ, 160, .inr (.inl m_nb))), (h0, .inr (8, [.ref qh, .ref qk, .ref qd, .int b0, .ref qa, .ref qm, .ref qs, .ref qp, .ref ql, .ref qt, .ref qz, .ref qf])), (qf, .inl (cI, 7, .inl f2_5))] ++ tl) := hD
    subst hw_r_4
    refine lv_aload_n hx hb dL_law_1239 rfl (lv_at hl 1 rfl) ?_
    refine lv_aload_n hx hb dL_law_1240 rfl (lv_at hl 3 rfl) ?_
    refine lv_iload_n hx hb dL_law_1241 rfl (lv_at hl 0 rfl) ?_
    refine lv_iconst (v := 1) hx hb dL_law_1242 (by decide) ?_
    refine lv_iadd hx hb dL_law_1243 ?_
    refine xl_i (y := nI (i + 1)) (nI_add i 1) ?_
    refine va_sld hx hb hX hbl hbA hS (x_si (k := 1) (by decide) hi hL) dL_law_1244 ?_
    refine xl_i (y := xs (i + 1)) (congrArg xs (x_sc (k := 1) (by decide) hi hL)) ?_
    refine lv_aload_n hx hb dL_law_1245 rfl (lv_at hl 3 rfl) ?_
    refine lv_iload_n hx hb dL_law_1246 rfl (lv_at hl 0 rfl) ?_
    refine lv_iconst (v := 2) hx hb dL_law_1247 (by decide) ?_
    refine lv_iadd hx hb dL_law_1248 ?_
    refine xl_i (y := nI (i + 2)) (nI_add i 2) ?_
    refine va_sld hx hb hX hbl hbA hS (x_si (k := 2) (by decide) hi hL) dL_law_1249 ?_
    refine xl_i (y := xs (i + 2)) (congrArg xs (x_sc (k := 2) (by decide) hi hL)) ?_
    refine lv_aload_n hx hb dL_law_1250 rfl (lv_at hl 3 rfl) ?_
    refine lv_iload_n hx hb dL_law_1251 rfl (lv_at hl 0 rfl) ?_
    refine lv_iconst (v := 3) hx hb dL_law_1252 (by decide) ?_
    refine lv_iadd hx hb dL_law_1253 ?_
    refine xl_i (y := nI (i + 3)) (nI_add i 3) ?_
    refine va_sld hx hb hX hbl hbA hS (x_si (k := 3) (by decide) hi hL) dL_law_1254 ?_
    refine xl_i (y := xs (i + 3)) (congrArg xs (x_sc (k := 3) (by decide) hi hL)) ?_
    refine lv_i2l (v := (xs (i + 3)).toInt64) hx hb dL_law_1255 rfl ?_
    refine lv_bipush (v := 32) hx hb dL_law_1256 (by decide) ?_
    refine lv_lshl hx hb dL_law_1258 rfl ?_
    refine lv_topl (fun x_6 ex_6 => ?_)
    refine lv_aload_n hx hb dL_law_1259 rfl (lv_at hl 3 rfl) ?_
    refine lv_iload_n hx hb dL_law_1260 rfl (lv_at hl 0 rfl) ?_
    refine lv_iconst (v := 4) hx hb dL_law_1261 (by decide) ?_
    refine lv_iadd hx hb dL_law_1262 ?_
    refine xl_i (y := nI (i + 4)) (nI_add i 4) ?_
    refine va_sld hx hb hX hbl hbA hS (x_si (k := 4) (by decide) hi hL) dL_law_1263 ?_
    refine xl_i (y := xs (i + 4)) (congrArg xs (x_sc (k := 4) (by decide) hi hL)) ?_
    refine lv_i2l (v := (xs (i + 4)).toInt64) hx hb dL_law_1264 rfl ?_
    refine lv_ldc2 (v := 4294967295) hx hb hown (hu _ uw1261) dL_law_1265 ?_
    refine lv_land hx hb dL_law_1268 ?_
    refine lv_topl (fun x_7 ex_7 => ?_)
    refine lv_lor hx hb dL_law_1269 ?_
    refine lv_topl (fun x_8 ex_8 => ?_)
    refine xc_VlT (wr := [(qz, .inl (cS, 4, .inr (.inr (.inr (.inr (xSh s0 s1 s2 s3)))))), (s0, .inr (4, [.int bt0, .int (nI (sz0)), .ref sn0])), (s1, .inr (4, [.int bt1, .int (nI (sz1)), .ref sn1])), (s2, .inr (4, [.int bt2, .int (nI (sz2)), .ref sn2])), (s3, .inr (4, [.int bt3, .int (nI (sz3)), .ref sn3])), (sn0, .inl (cJ, 40, .inr (.inl nu0))), (sn1, .inl (cJ, 40, .inr (.inl nu1))), (sn2, .inl (cJ, 40, .inr (.inl nu2))), (sn3, .inl (cJ, 40, .inr (.inl nu3))), (m_ybi, .inl (cI, 4, .inl m_bi)), (m_ysi, .inl (cI, 4, .inl m_sq)), (m_ynu, .inl (cJ, 160, .inr (.inl m_nb))), (h0, .inr (8, [.ref qh, .ref qk, .ref qd, .int b0, .ref qa, .ref qm, .ref qs, .ref qp, .ref ql, .ref qt, .ref qz, .ref qf])), (qf, .inl (cI, 7, .inl f2_5))]) hF (c_X9_write_o l D cI cJ cZ cS ta sa sv H.size g0 m_ys m_yk m_yo m_yt b0 m_yfa m_yfe m_mL m_mS m_mM m_yro m_yhe m_ygr m_mF m_mC m_mY m_yta z m_mf m_mt m_mv m_mw m_ywa m_ybi m_ysi m_ynu m_ymo m_mq (xs (i + 1)) (xs (i + 2)) x_8 oq1) kv_L_165 ⟨rfl, rfl, Nat.le_of_ble_eq_true rfl, Nat.le_of_ble_eq_true rfl⟩ ⟨Nat.le_of_ble_eq_true rfl, Nat.le_of_ble_eq_true rfl⟩ hK hN hZ hP hD hS hA [9, 10] [0, 1, 2, 3, 4, 5, 6, 7, 8, 11, 12, 13, 14, 15] rfl rfl rfl rfl (by decide) 0 rfl rfl rfl rfl hl.1 rfl (Nat.le_of_ble_eq_true rfl) dL_law_1270 (fun r_9 u_r_9 H locs hw_r_9 hP hD hS => ?_)
    obtain ⟨mq2_10, rfl⟩ : ∃ z, z = u_r_9 := ⟨_, rfl⟩
    try dsimp only at hw_r_9
    have hP : va_P D vwCl ([(qz, .inl (cS, 4, .inr (.inr (.inr (.inr (xSh s0 s1 s2 s3)))))), (s0, .inr (4, [.int bt0, .int (nI (sz0)), .ref sn0])), (s1, .inr (4, [.int bt1, .int (nI (sz1)), .ref sn1])), (s2, .inr (4, [.int bt2, .int (nI (sz2)), .ref sn2])), (s3, .inr (4, [.int bt3, .int (nI (sz3)), .ref sn3])), (sn0, .inl (cJ, 40, .inr (.inl nu0))), (sn1, .inl (cJ, 40, .inr (.inl nu1))), (sn2, .inl (cJ, 40, .inr (.inl nu2))), (sn3, .inl (cJ, 40, .inr (.inl nu3))), (m_ybi, .inl (cI, 4, .inl m_bi)), (m_ysi, .inl (cI, 4, .inl m_sq)), (m_ynu, .inl (cJ, 160, .inr (.inl m_nb))), (h0, .inr (8, [.ref qh, .ref qk, .ref qd, .int b0, .ref qa, .ref qm, .ref qs, .ref qp, .ref ql, .ref qt, .ref qz, .ref qf])), (qf, .inl (cI, 7, .inl f2_5)), (g0, .inr (9, [.ref m_ys, .ref m_yk, .ref m_yo, .ref m_yt, .int b0, .ref m_yfa, .ref m_yfe, .int m_mL, .int m_mS, .int m_mM, .ref m_yro, .ref m_yhe, .ref m_ygr, .int m_mF, .int m_mC, .int m_mY, .ref m_yta, .int (nI (z)), .int (nI (m_mf)), .int (nI (m_mt)), .int m_mv, .int m_mw, .ref m_ywa, .ref m_ybi, .ref m_ysi, .ref m_ynu, .ref m_ymo])), (m_yt, .inl (cI, 7, .inl mq2_10))] ++ tl) H := hP
    have hD : va_D A ([(qz, .inl (cS, 4, .inr (.inr (.inr (.inr (xSh s0 s1 s2 s3)))))), (s0, .inr (4, [.int bt0, .int (nI (sz0)), .ref sn0])), (s1, .inr (4, [.int bt1, .int (nI (sz1)), .ref sn1])), (s2, .inr (4, [.int bt2, .int (nI (sz2)), .ref sn2])), (s3, .inr (4, [.int bt3, .int (nI (sz3)), .ref sn3])), (sn0, .inl (cJ, 40, .inr (.inl nu0))), (sn1, .inl (cJ, 40, .inr (.inl nu1))), (sn2, .inl (cJ, 40, .inr (.inl nu2))), (sn3, .inl (cJ, 40, .inr (.inl nu3))), (m_ybi, .inl (cI, 4, .inl m_bi)), (m_ysi, .inl (cI, 4, .inl m_sq)), (m_ynu, .inl (cJ, 160, .inr (.inl m_nb))), (h0, .inr (8, [.ref qh, .ref qk, .ref qd, .int b0, .ref qa, .ref qm, .ref qs, .ref qp, .ref ql, .ref qt, .ref qz, .ref qf])), (qf, .inl (cI, 7, .inl f2_5)), (g0, .inr (9, [.ref m_ys, .ref m_yk, .ref m_yo, .ref m_yt, .int b0, .ref m_yfa, .ref m_yfe, .int m_mL, .int m_mS, .int m_mM, .ref m_yro, .ref m_yhe, .ref m_ygr, .int m_mF, .int m_mC, .int m_mY, .ref m_yta, .int (nI (z)), .int (nI (m_mf)), .int (nI (m_mt)), .int m_mv, .int m_mw, .ref m_ywa, .ref m_ybi, .ref m_ysi, .ref m_ynu, .ref m_ymo])), (m_yt, .inl (cI, 7, .inl mq2_10))] ++ tl) := hD
    subst hw_r_9
    refine W.lcmp hx hb dL_law_1273 ?_
    refine xl_i (y := 0) (by decide) ?_
    refine lv_if_eq (tgt := 1483) hx hb dL_law_1274 (by decide) (fun c_11 => ?_) (fun c_11 => absurd (by decide) c_11)
    exact kkx _ _ _ nu0 nu1 nu2 nu3 f2_5 mq2_10 m_nb (xt_P hP [12, 0, 1, 2, 3, 4, 5, 6, 7, 8, 13, 14, 15, 9, 10, 11] rfl) (xt_D hD [12, 0, 1, 2, 3, 4, 5, 6, 7, 8, 13, 14, 15, 9, 10, 11] (by decide +kernel) rfl) r_n0 r_n1 r_n2 r_n3 hS hl
  · skip
    refine lv_aload_n hx hb dL_law_1205 rfl (lv_at hl 2 rfl) ?_
    refine lv_aload_n hx hb dL_law_1206 rfl (lv_at hl 3 rfl) ?_
    refine lv_iload_n hx hb dL_law_1207 rfl (lv_at hl 0 rfl) ?_
    refine lv_iconst (v := 1) hx hb dL_law_1208 (by decide) ?_
    refine lv_iadd hx hb dL_law_1209 ?_
    refine xl_i (y := nI (i + 1)) (nI_add i 1) ?_
    refine va_sld hx hb hX hbl hbA hS (x_si (k := 1) (by decide) hi hL) dL_law_1210 ?_
    refine xl_i (y := xs (i + 1)) (congrArg xs (x_sc (k := 1) (by decide) hi hL)) ?_
    refine xl_i (y := 0) eq1 ?_
    refine lv_aload_n hx hb dL_law_1211 rfl (lv_at hl 3 rfl) ?_
    refine lv_iload_n hx hb dL_law_1212 rfl (lv_at hl 0 rfl) ?_
    refine lv_iconst (v := 2) hx hb dL_law_1213 (by decide) ?_
    refine lv_iadd hx hb dL_law_1214 ?_
    refine xl_i (y := nI (i + 2)) (nI_add i 2) ?_
    refine va_sld hx hb hX hbl hbA hS (x_si (k := 2) (by decide) hi hL) dL_law_1215 ?_
    refine xl_i (y := xs (i + 2)) (congrArg xs (x_sc (k := 2) (by decide) hi hL)) ?_
    refine lv_aload_n hx hb dL_law_1216 rfl (lv_at hl 3 rfl) ?_
    refine lv_iload_n hx hb dL_law_1217 rfl (lv_at hl 0 rfl) ?_
    refine lv_iconst (v := 3) hx hb dL_law_1218 (by decide) ?_
    refine lv_iadd hx hb dL_law_1219 ?_
    refine xl_i (y := nI (i + 3)) (nI_add i 3) ?_
    refine va_sld hx hb hX hbl hbA hS (x_si (k := 3) (by decide) hi hL) dL_law_1220 ?_
    refine xl_i (y := xs (i + 3)) (congrArg xs (x_sc (k := 3) (by decide) hi hL)) ?_
    refine lv_i2l (v := (xs (i + 3)).toInt64) hx hb dL_law_1221 rfl ?_
    refine lv_bipush (v := 32) hx hb dL_law_1222 (by decide) ?_
    refine lv_lshl hx hb dL_law_1224 rfl ?_
    refine lv_topl (fun x_12 ex_12 => ?_)
    refine lv_aload_n hx hb dL_law_1225 rfl (lv_at hl 3 rfl) ?_
    refine lv_iload_n hx hb dL_law_1226 rfl (lv_at hl 0 rfl) ?_
    refine lv_iconst (v := 4) hx hb dL_law_1227 (by decide) ?_
    refine lv_iadd hx hb dL_law_1228 ?_
    refine xl_i (y := nI (i + 4)) (nI_add i 4) ?_
    refine va_sld hx hb hX hbl hbA hS (x_si (k := 4) (by decide) hi hL) dL_law_1229 ?_
    refine xl_i (y := xs (i + 4)) (congrArg xs (x_sc (k := 4) (by decide) hi hL)) ?_
    refine lv_i2l (v := (xs (i + 4)).toInt64) hx hb dL_law_1230 rfl ?_
    refine lv_ldc2 (v := 4294967295) hx hb hown (hu _ uw1261) dL_law_1231 ?_
    refine lv_land hx hb dL_law_1234 ?_
    refine lv_topl (fun x_13 ex_13 => ?_)
    refine lv_lor hx hb dL_law_1235 ?_
    refine lv_topl (fun x_14 ex_14 => ?_)
    refine xc_VlT (wr := [(g0, .inr (9, [.ref m_ys, .ref m_yk, .ref m_yo, .ref m_yt, .int b0, .ref m_yfa, .ref m_yfe, .int m_mL, .int m_mS, .int m_mM, .ref m_yro, .ref m_yhe, .ref m_ygr, .int m_mF, .int m_mC, .int m_mY, .ref m_yta, .int (nI (z)), .int (nI (m_mf)), .int (nI (m_mt)), .int m_mv, .int m_mw, .ref m_ywa, .ref m_ybi, .ref m_ysi, .ref m_ynu, .ref m_ymo])), (m_yt, .inl (cI, 7, .inl m_mq)), (m_ybi, .inl (cI, 4, .inl m_bi)), (m_ysi, .inl (cI, 4, .inl m_sq)), (m_ynu, .inl (cJ, 160, .inr (.inl m_nb)))]) hF (c_X8_write_0 l D cI cJ cZ cS ta sa sv H.size h0 qh qk qd b0 qa qm qs qp ql qt qz qf s0 s1 s2 s3 bt0 sz0 sn0 bt1 sz1 sn1 bt2 sz2 sn2 bt3 sz3 sn3 nu0 nu1 nu2 nu3 ff (xs (i + 2)) x_14 hsz0 hsz1 hsz2 hsz3) kv_L_161 ⟨rfl, rfl, Nat.le_of_ble_eq_true rfl, Nat.le_of_ble_eq_true rfl⟩ ⟨Nat.le_of_ble_eq_true rfl, Nat.le_of_ble_eq_true rfl⟩ hK hN hZ hP hD hS hA [0, 1, 2, 3, 4, 5, 6, 7, 8, 9, 10] [11, 12, 13, 14, 15] rfl rfl rfl rfl (by decide) 0 rfl rfl rfl rfl hl.1 rfl (Nat.le_of_ble_eq_true rfl) dL_law_1236 (fun r_15 u_r_15 H locs hw_r_15 hP hD hS => ?_)
    obtain ⟨nv_16, f2_17⟩ := u_r_15
    try dsimp only at hw_r_15
    obtain ⟨hw_r_15, i_18⟩ := hw_r_15
    have hP : va_P D vwCl ([(g0, .inr (9, [.ref m_ys, .ref m_yk, .ref m_yo, .ref m_yt, .int b0, .ref m_yfa, .ref m_yfe, .int m_mL, .int m_mS, .int m_mM, .ref m_yro, .ref m_yhe, .ref m_ygr, .int m_mF, .int m_mC, .int m_mY, .ref m_yta, .int (nI (z)), .int (nI (m_mf)), .int (nI (m_mt)), .int m_mv, .int m_mw, .ref m_ywa, .ref m_ybi, .ref m_ysi, .ref m_ynu, .ref m_ymo])), (m_yt, .inl (cI, 7, .inl m_mq)), (m_ybi, .inl (cI, 4, .inl m_bi)), (m_ysi, .inl (cI, 4, .inl m_sq)), (m_ynu, .inl (cJ, 160, .inr (.inl m_nb))), (h0, .inr (8, [.ref qh, .ref qk, .ref qd, .int b0, .ref qa, .ref qm, .ref qs, .ref qp, .ref ql, .ref qt, .ref qz, .ref qf])), (qz, .inl (cS, 4, .inr (.inr (.inr (.inr (xSh s0 s1 s2 s3)))))), (s0, .inr (4, [.int bt0, .int (nI (sz0)), .ref sn0])), (s1, .inr (4, [.int bt1, .int (nI (sz1)), .ref sn1])), (s2, .inr (4, [.int bt2, .int (nI (sz2)), .ref sn2])), (s3, .inr (4, [.int bt3, .int (nI (sz3)), .ref sn3])), (sn0, .inl (cJ, 40, .inr (.inl nv_16))), (sn1, .inl (cJ, 40, .inr (.inl nu1))), (sn2, .inl (cJ, 40, .inr (.inl nu2))), (sn3, .inl (cJ, 40, .inr (.inl nu3))), (qf, .inl (cI, 7, .inl f2_17))] ++ tl) H := hP
    have hD : va_D A ([(g0, .inr (9, [.ref m_ys, .ref m_yk, .ref m_yo, .ref m_yt, .int b0, .ref m_yfa, .ref m_yfe, .int m_mL, .int m_mS, .int m_mM, .ref m_yro, .ref m_yhe, .ref m_ygr, .int m_mF, .int m_mC, .int m_mY, .ref m_yta, .int (nI (z)), .int (nI (m_mf)), .int (nI (m_mt)), .int m_mv, .int m_mw, .ref m_ywa, .ref m_ybi, .ref m_ysi, .ref m_ynu, .ref m_ymo])), (m_yt, .inl (cI, 7, .inl m_mq)), (m_ybi, .inl (cI, 4, .inl m_bi)), (m_ysi, .inl (cI, 4, .inl m_sq)), (m_ynu, .inl (cJ, 160, .inr (.inl m_nb))), (h0, .inr (8, [.ref qh, .ref qk, .ref qd, .int b0, .ref qa, .ref qm, .ref qs, .ref qp, .ref ql, .ref qt, .ref qz, .ref qf])), (qz, .inl (cS, 4, .inr (.inr (.inr (.inr (xSh s0 s1 s2 s3)))))), (s0, .inr (4, [.int bt0, .int (nI (sz0)), .ref sn0])), (s1, .inr (4, [.int bt1, .int (nI (sz1)), .ref sn1])), (s2, .inr (4, [.int bt2, .int (nI (sz2)), .ref sn2])), (s3, .inr (4, [.int bt3, .int (nI (sz3)), .ref sn3])), (sn0, .inl (cJ, 40, .inr (.inl nv_16))), (sn1, .inl (cJ, 40, .inr (.inl nu1))), (sn2, .inl (cJ, 40, .inr (.inl nu2))), (sn3, .inl (cJ, 40, .inr (.inl nu3))), (qf, .inl (cI, 7, .inl f2_17))] ++ tl) := hD
    subst hw_r_15
    refine lv_aload_n hx hb dL_law_1239 rfl (lv_at hl 1 rfl) ?_
    refine lv_aload_n hx hb dL_law_1240 rfl (lv_at hl 3 rfl) ?_
    refine lv_iload_n hx hb dL_law_1241 rfl (lv_at hl 0 rfl) ?_
    refine lv_iconst (v := 1) hx hb dL_law_1242 (by decide) ?_
    refine lv_iadd hx hb dL_law_1243 ?_
    refine xl_i (y := nI (i + 1)) (nI_add i 1) ?_
    refine va_sld hx hb hX hbl hbA hS (x_si (k := 1) (by decide) hi hL) dL_law_1244 ?_
    refine xl_i (y := xs (i + 1)) (congrArg xs (x_sc (k := 1) (by decide) hi hL)) ?_
    refine xl_i (y := 0) eq1 ?_
    refine lv_aload_n hx hb dL_law_1245 rfl (lv_at hl 3 rfl) ?_
    refine lv_iload_n hx hb dL_law_1246 rfl (lv_at hl 0 rfl) ?_
    refine lv_iconst (v := 2) hx hb dL_law_1247 (by decide) ?_
    refine lv_iadd hx hb dL_law_1248 ?_
    refine xl_i (y := nI (i + 2)) (nI_add i 2) ?_
    refine va_sld hx hb hX hbl hbA hS (x_si (k := 2) (by decide) hi hL) dL_law_1249 ?_
    refine xl_i (y := xs (i + 2)) (congrArg xs (x_sc (k := 2) (by decide) hi hL)) ?_
    refine lv_aload_n hx hb dL_law_1250 rfl (lv_at hl 3 rfl) ?_
    refine lv_iload_n hx hb dL_law_1251 rfl (lv_at hl 0 rfl) ?_
    refine lv_iconst (v := 3) hx hb dL_law_1252 (by decide) ?_
    refine lv_iadd hx hb dL_law_1253 ?_
    refine xl_i (y := nI (i + 3)) (nI_add i 3) ?_
    refine va_sld hx hb hX hbl hbA hS (x_si (k := 3) (by decide) hi hL) dL_law_1254 ?_
    refine xl_i (y := xs (i + 3)) (congrArg xs (x_sc (k := 3) (by decide) hi hL)) ?_
    refine lv_i2l (v := (xs (i + 3)).toInt64) hx hb dL_law_1255 rfl ?_
    refine lv_bipush (v := 32) hx hb dL_law_1256 (by decide) ?_
    refine lv_lshl hx hb dL_law_1258 rfl ?_
    refine lv_topl (fun x_19 ex_19 => ?_)
    refine lv_aload_n hx hb dL_law_1259 rfl (lv_at hl 3 rfl) ?_
    refine lv_iload_n hx hb dL_law_1260 rfl (lv_at hl 0 rfl) ?_
    refine lv_iconst (v := 4) hx hb dL_law_1261 (by decide) ?_
    refine lv_iadd hx hb dL_law_1262 ?_
    refine xl_i (y := nI (i + 4)) (nI_add i 4) ?_
    refine va_sld hx hb hX hbl hbA hS (x_si (k := 4) (by decide) hi hL) dL_law_1263 ?_
    refine xl_i (y := xs (i + 4)) (congrArg xs (x_sc (k := 4) (by decide) hi hL)) ?_
    refine lv_i2l (v := (xs (i + 4)).toInt64) hx hb dL_law_1264 rfl ?_
    refine lv_ldc2 (v := 4294967295) hx hb hown (hu _ uw1261) dL_law_1265 ?_
    refine lv_land hx hb dL_law_1268 ?_
    refine lv_topl (fun x_20 ex_20 => ?_)
    refine lv_lor hx hb dL_law_1269 ?_
    refine lv_topl (fun x_21 ex_21 => ?_)
    refine xc_VlT (wr := [(h0, .inr (8, [.ref qh, .ref qk, .ref qd, .int b0, .ref qa, .ref qm, .ref qs, .ref qp, .ref ql, .ref qt, .ref qz, .ref qf])), (qz, .inl (cS, 4, .inr (.inr (.inr (.inr (xSh s0 s1 s2 s3)))))), (s0, .inr (4, [.int bt0, .int (nI (sz0)), .ref sn0])), (s1, .inr (4, [.int bt1, .int (nI (sz1)), .ref sn1])), (s2, .inr (4, [.int bt2, .int (nI (sz2)), .ref sn2])), (s3, .inr (4, [.int bt3, .int (nI (sz3)), .ref sn3])), (sn0, .inl (cJ, 40, .inr (.inl nv_16))), (sn1, .inl (cJ, 40, .inr (.inl nu1))), (sn2, .inl (cJ, 40, .inr (.inl nu2))), (sn3, .inl (cJ, 40, .inr (.inl nu3))), (qf, .inl (cI, 7, .inl f2_17))]) hF (c_X9_write_0 l D cI cJ cZ cS ta sa sv H.size g0 m_ys m_yk m_yo m_yt b0 m_yfa m_yfe m_mL m_mS m_mM m_yro m_yhe m_ygr m_mF m_mC m_mY m_yta z m_mf m_mt m_mv m_mw m_ywa m_ybi m_ysi m_ynu m_ymo m_bi m_sq m_nb m_mq (xs (i + 2)) x_21 sz0 r_z0 hsz0 m_hsq) kv_L_165 ⟨rfl, rfl, Nat.le_of_ble_eq_true rfl, Nat.le_of_ble_eq_true rfl⟩ ⟨Nat.le_of_ble_eq_true rfl, Nat.le_of_ble_eq_true rfl⟩ hK hN hZ hP hD hS hA [0, 2, 3, 4, 1] [5, 6, 7, 8, 9, 10, 11, 12, 13, 14, 15] rfl rfl rfl rfl (by decide) 0 rfl rfl rfl rfl hl.1 rfl (Nat.le_of_ble_eq_true rfl) dL_law_1270 (fun r_22 u_r_22 H locs hw_r_22 hP hD hS => ?_)
    obtain ⟨nb2_23, mq2_24⟩ := u_r_22
    try dsimp only at hw_r_22
    obtain ⟨hw_r_22, i_25, i_26⟩ := hw_r_22
    have hP : va_P D vwCl ([(h0, .inr (8, [.ref qh, .ref qk, .ref qd, .int b0, .ref qa, .ref qm, .ref qs, .ref qp, .ref ql, .ref qt, .ref qz, .ref qf])), (qz, .inl (cS, 4, .inr (.inr (.inr (.inr (xSh s0 s1 s2 s3)))))), (s0, .inr (4, [.int bt0, .int (nI (sz0)), .ref sn0])), (s1, .inr (4, [.int bt1, .int (nI (sz1)), .ref sn1])), (s2, .inr (4, [.int bt2, .int (nI (sz2)), .ref sn2])), (s3, .inr (4, [.int bt3, .int (nI (sz3)), .ref sn3])), (sn0, .inl (cJ, 40, .inr (.inl nv_16))), (sn1, .inl (cJ, 40, .inr (.inl nu1))), (sn2, .inl (cJ, 40, .inr (.inl nu2))), (sn3, .inl (cJ, 40, .inr (.inl nu3))), (qf, .inl (cI, 7, .inl f2_17)), (g0, .inr (9, [.ref m_ys, .ref m_yk, .ref m_yo, .ref m_yt, .int b0, .ref m_yfa, .ref m_yfe, .int m_mL, .int m_mS, .int m_mM, .ref m_yro, .ref m_yhe, .ref m_ygr, .int m_mF, .int m_mC, .int m_mY, .ref m_yta, .int (nI (z)), .int (nI (m_mf)), .int (nI (m_mt)), .int m_mv, .int m_mw, .ref m_ywa, .ref m_ybi, .ref m_ysi, .ref m_ynu, .ref m_ymo])), (m_ybi, .inl (cI, 4, .inl m_bi)), (m_ysi, .inl (cI, 4, .inl m_sq)), (m_ynu, .inl (cJ, 160, .inr (.inl nb2_23))), (m_yt, .inl (cI, 7, .inl mq2_24))] ++ tl) H := hP
    have hD : va_D A ([(h0, .inr (8, [.ref qh, .ref qk, .ref qd, .int b0, .ref qa, .ref qm, .ref qs, .ref qp, .ref ql, .ref qt, .ref qz, .ref qf])), (qz, .inl (cS, 4, .inr (.inr (.inr (.inr (xSh s0 s1 s2 s3)))))), (s0, .inr (4, [.int bt0, .int (nI (sz0)), .ref sn0])), (s1, .inr (4, [.int bt1, .int (nI (sz1)), .ref sn1])), (s2, .inr (4, [.int bt2, .int (nI (sz2)), .ref sn2])), (s3, .inr (4, [.int bt3, .int (nI (sz3)), .ref sn3])), (sn0, .inl (cJ, 40, .inr (.inl nv_16))), (sn1, .inl (cJ, 40, .inr (.inl nu1))), (sn2, .inl (cJ, 40, .inr (.inl nu2))), (sn3, .inl (cJ, 40, .inr (.inl nu3))), (qf, .inl (cI, 7, .inl f2_17)), (g0, .inr (9, [.ref m_ys, .ref m_yk, .ref m_yo, .ref m_yt, .int b0, .ref m_yfa, .ref m_yfe, .int m_mL, .int m_mS, .int m_mM, .ref m_yro, .ref m_yhe, .ref m_ygr, .int m_mF, .int m_mC, .int m_mY, .ref m_yta, .int (nI (z)), .int (nI (m_mf)), .int (nI (m_mt)), .int m_mv, .int m_mw, .ref m_ywa, .ref m_ybi, .ref m_ysi, .ref m_ynu, .ref m_ymo])), (m_ybi, .inl (cI, 4, .inl m_bi)), (m_ysi, .inl (cI, 4, .inl m_sq)), (m_ynu, .inl (cJ, 160, .inr (.inl nb2_23))), (m_yt, .inl (cI, 7, .inl mq2_24))] ++ tl) := hD
    subst hw_r_22
    refine W.lcmp hx hb dL_law_1273 ?_
    refine xl_i (y := 0) (xq_eq (sp_wreq (by omega) r_b0 r_n0)) ?_
    refine lv_if_eq (tgt := 1483) hx hb dL_law_1274 (by decide) (fun c_27 => ?_) (fun c_27 => absurd (by decide) c_27)
    exact kkx _ _ _ nv_16 nu1 nu2 nu3 f2_17 mq2_24 nb2_23 (xt_P hP [0, 1, 2, 3, 4, 5, 6, 7, 8, 9, 10, 11, 15, 12, 13, 14] rfl) (xt_D hD [0, 1, 2, 3, 4, 5, 6, 7, 8, 9, 10, 11, 15, 12, 13, 14] (by decide +kernel) rfl) (fun j hj => by rw [i_25 j hj, r_n0 j hj, r_b0, i_18 j]) (fun j hj => (i_26 (40 + j) (by omega)).trans (r_n1 j hj)) (fun j hj => (i_26 (80 + j) (by omega)).trans (r_n2 j hj)) (fun j hj => (i_26 (120 + j) (by omega)).trans (r_n3 j hj)) hS hl
  · skip
    refine lv_aload_n hx hb dL_law_1205 rfl (lv_at hl 2 rfl) ?_
    refine lv_aload_n hx hb dL_law_1206 rfl (lv_at hl 3 rfl) ?_
    refine lv_iload_n hx hb dL_law_1207 rfl (lv_at hl 0 rfl) ?_
    refine lv_iconst (v := 1) hx hb dL_law_1208 (by decide) ?_
    refine lv_iadd hx hb dL_law_1209 ?_
    refine xl_i (y := nI (i + 1)) (nI_add i 1) ?_
    refine va_sld hx hb hX hbl hbA hS (x_si (k := 1) (by decide) hi hL) dL_law_1210 ?_
    refine xl_i (y := xs (i + 1)) (congrArg xs (x_sc (k := 1) (by decide) hi hL)) ?_
    refine xl_i (y := 1) eq1 ?_
    refine lv_aload_n hx hb dL_law_1211 rfl (lv_at hl 3 rfl) ?_
    refine lv_iload_n hx hb dL_law_1212 rfl (lv_at hl 0 rfl) ?_
    refine lv_iconst (v := 2) hx hb dL_law_1213 (by decide) ?_
    refine lv_iadd hx hb dL_law_1214 ?_
    refine xl_i (y := nI (i + 2)) (nI_add i 2) ?_
    refine va_sld hx hb hX hbl hbA hS (x_si (k := 2) (by decide) hi hL) dL_law_1215 ?_
    refine xl_i (y := xs (i + 2)) (congrArg xs (x_sc (k := 2) (by decide) hi hL)) ?_
    refine lv_aload_n hx hb dL_law_1216 rfl (lv_at hl 3 rfl) ?_
    refine lv_iload_n hx hb dL_law_1217 rfl (lv_at hl 0 rfl) ?_
    refine lv_iconst (v := 3) hx hb dL_law_1218 (by decide) ?_
    refine lv_iadd hx hb dL_law_1219 ?_
    refine xl_i (y := nI (i + 3)) (nI_add i 3) ?_
    refine va_sld hx hb hX hbl hbA hS (x_si (k := 3) (by decide) hi hL) dL_law_1220 ?_
    refine xl_i (y := xs (i + 3)) (congrArg xs (x_sc (k := 3) (by decide) hi hL)) ?_
    refine lv_i2l (v := (xs (i + 3)).toInt64) hx hb dL_law_1221 rfl ?_
    refine lv_bipush (v := 32) hx hb dL_law_1222 (by decide) ?_
    refine lv_lshl hx hb dL_law_1224 rfl ?_
    refine lv_topl (fun x_28 ex_28 => ?_)
    refine lv_aload_n hx hb dL_law_1225 rfl (lv_at hl 3 rfl) ?_
    refine lv_iload_n hx hb dL_law_1226 rfl (lv_at hl 0 rfl) ?_
    refine lv_iconst (v := 4) hx hb dL_law_1227 (by decide) ?_
    refine lv_iadd hx hb dL_law_1228 ?_
    refine xl_i (y := nI (i + 4)) (nI_add i 4) ?_
    refine va_sld hx hb hX hbl hbA hS (x_si (k := 4) (by decide) hi hL) dL_law_1229 ?_
    refine xl_i (y := xs (i + 4)) (congrArg xs (x_sc (k := 4) (by decide) hi hL)) ?_
    refine lv_i2l (v := (xs (i + 4)).toInt64) hx hb dL_law_1230 rfl ?_
    refine lv_ldc2 (v := 4294967295) hx hb hown (hu _ uw1261) dL_law_1231 ?_
    refine lv_land hx hb dL_law_1234 ?_
    refine lv_topl (fun x_29 ex_29 => ?_)
    refine lv_lor hx hb dL_law_1235 ?_
    refine lv_topl (fun x_30 ex_30 => ?_)
    refine xc_VlT (wr := [(g0, .inr (9, [.ref m_ys, .ref m_yk, .ref m_yo, .ref m_yt, .int b0, .ref m_yfa, .ref m_yfe, .int m_mL, .int m_mS, .int m_mM, .ref m_yro, .ref m_yhe, .ref m_ygr, .int m_mF, .int m_mC, .int m_mY, .ref m_yta, .int (nI (z)), .int (nI (m_mf)), .int (nI (m_mt)), .int m_mv, .int m_mw, .ref m_ywa, .ref m_ybi, .ref m_ysi, .ref m_ynu, .ref m_ymo])), (m_yt, .inl (cI, 7, .inl m_mq)), (m_ybi, .inl (cI, 4, .inl m_bi)), (m_ysi, .inl (cI, 4, .inl m_sq)), (m_ynu, .inl (cJ, 160, .inr (.inl m_nb)))]) hF (c_X8_write_1 l D cI cJ cZ cS ta sa sv H.size h0 qh qk qd b0 qa qm qs qp ql qt qz qf s0 s1 s2 s3 bt0 sz0 sn0 bt1 sz1 sn1 bt2 sz2 sn2 bt3 sz3 sn3 nu0 nu1 nu2 nu3 ff (xs (i + 2)) x_30 hsz0 hsz1 hsz2 hsz3) kv_L_161 ⟨rfl, rfl, Nat.le_of_ble_eq_true rfl, Nat.le_of_ble_eq_true rfl⟩ ⟨Nat.le_of_ble_eq_true rfl, Nat.le_of_ble_eq_true rfl⟩ hK hN hZ hP hD hS hA [0, 1, 2, 3, 4, 5, 6, 7, 8, 9, 10] [11, 12, 13, 14, 15] rfl rfl rfl rfl (by decide) 0 rfl rfl rfl rfl hl.1 rfl (Nat.le_of_ble_eq_true rfl) dL_law_1236 (fun r_31 u_r_31 H locs hw_r_31 hP hD hS => ?_)
    obtain ⟨nv_32, f2_33⟩ := u_r_31
    try dsimp only at hw_r_31
    obtain ⟨hw_r_31, i_34⟩ := hw_r_31
    have hP : va_P D vwCl ([(g0, .inr (9, [.ref m_ys, .ref m_yk, .ref m_yo, .ref m_yt, .int b0, .ref m_yfa, .ref m_yfe, .int m_mL, .int m_mS, .int m_mM, .ref m_yro, .ref m_yhe, .ref m_ygr, .int m_mF, .int m_mC, .int m_mY, .ref m_yta, .int (nI (z)), .int (nI (m_mf)), .int (nI (m_mt)), .int m_mv, .int m_mw, .ref m_ywa, .ref m_ybi, .ref m_ysi, .ref m_ynu, .ref m_ymo])), (m_yt, .inl (cI, 7, .inl m_mq)), (m_ybi, .inl (cI, 4, .inl m_bi)), (m_ysi, .inl (cI, 4, .inl m_sq)), (m_ynu, .inl (cJ, 160, .inr (.inl m_nb))), (h0, .inr (8, [.ref qh, .ref qk, .ref qd, .int b0, .ref qa, .ref qm, .ref qs, .ref qp, .ref ql, .ref qt, .ref qz, .ref qf])), (qz, .inl (cS, 4, .inr (.inr (.inr (.inr (xSh s0 s1 s2 s3)))))), (s0, .inr (4, [.int bt0, .int (nI (sz0)), .ref sn0])), (s1, .inr (4, [.int bt1, .int (nI (sz1)), .ref sn1])), (s2, .inr (4, [.int bt2, .int (nI (sz2)), .ref sn2])), (s3, .inr (4, [.int bt3, .int (nI (sz3)), .ref sn3])), (sn0, .inl (cJ, 40, .inr (.inl nu0))), (sn1, .inl (cJ, 40, .inr (.inl nv_32))), (sn2, .inl (cJ, 40, .inr (.inl nu2))), (sn3, .inl (cJ, 40, .inr (.inl nu3))), (qf, .inl (cI, 7, .inl f2_33))] ++ tl) H := hP
    have hD : va_D A ([(g0, .inr (9, [.ref m_ys, .ref m_yk, .ref m_yo, .ref m_yt, .int b0, .ref m_yfa, .ref m_yfe, .int m_mL, .int m_mS, .int m_mM, .ref m_yro, .ref m_yhe, .ref m_ygr, .int m_mF, .int m_mC, .int m_mY, .ref m_yta, .int (nI (z)), .int (nI (m_mf)), .int (nI (m_mt)), .int m_mv, .int m_mw, .ref m_ywa, .ref m_ybi, .ref m_ysi, .ref m_ynu, .ref m_ymo])), (m_yt, .inl (cI, 7, .inl m_mq)), (m_ybi, .inl (cI, 4, .inl m_bi)), (m_ysi, .inl (cI, 4, .inl m_sq)), (m_ynu, .inl (cJ, 160, .inr (.inl m_nb))), (h0, .inr (8, [.ref qh, .ref qk, .ref qd, .int b0, .ref qa, .ref qm, .ref qs, .ref qp, .ref ql, .ref qt, .ref qz, .ref qf])), (qz, .inl (cS, 4, .inr (.inr (.inr (.inr (xSh s0 s1 s2 s3)))))), (s0, .inr (4, [.int bt0, .int (nI (sz0)), .ref sn0])), (s1, .inr (4, [.int bt1, .int (nI (sz1)), .ref sn1])), (s2, .inr (4, [.int bt2, .int (nI (sz2)), .ref sn2])), (s3, .inr (4, [.int bt3, .int (nI (sz3)), .ref sn3])), (sn0, .inl (cJ, 40, .inr (.inl nu0))), (sn1, .inl (cJ, 40, .inr (.inl nv_32))), (sn2, .inl (cJ, 40, .inr (.inl nu2))), (sn3, .inl (cJ, 40, .inr (.inl nu3))), (qf, .inl (cI, 7, .inl f2_33))] ++ tl) := hD
    subst hw_r_31
    refine lv_aload_n hx hb dL_law_1239 rfl (lv_at hl 1 rfl) ?_
    refine lv_aload_n hx hb dL_law_1240 rfl (lv_at hl 3 rfl) ?_
    refine lv_iload_n hx hb dL_law_1241 rfl (lv_at hl 0 rfl) ?_
    refine lv_iconst (v := 1) hx hb dL_law_1242 (by decide) ?_
    refine lv_iadd hx hb dL_law_1243 ?_
    refine xl_i (y := nI (i + 1)) (nI_add i 1) ?_
    refine va_sld hx hb hX hbl hbA hS (x_si (k := 1) (by decide) hi hL) dL_law_1244 ?_
    refine xl_i (y := xs (i + 1)) (congrArg xs (x_sc (k := 1) (by decide) hi hL)) ?_
    refine xl_i (y := 1) eq1 ?_
    refine lv_aload_n hx hb dL_law_1245 rfl (lv_at hl 3 rfl) ?_
    refine lv_iload_n hx hb dL_law_1246 rfl (lv_at hl 0 rfl) ?_
    refine lv_iconst (v := 2) hx hb dL_law_1247 (by decide) ?_
    refine lv_iadd hx hb dL_law_1248 ?_
    refine xl_i (y := nI (i + 2)) (nI_add i 2) ?_
    refine va_sld hx hb hX hbl hbA hS (x_si (k := 2) (by decide) hi hL) dL_law_1249 ?_
    refine xl_i (y := xs (i + 2)) (congrArg xs (x_sc (k := 2) (by decide) hi hL)) ?_
    refine lv_aload_n hx hb dL_law_1250 rfl (lv_at hl 3 rfl) ?_
    refine lv_iload_n hx hb dL_law_1251 rfl (lv_at hl 0 rfl) ?_
    refine lv_iconst (v := 3) hx hb dL_law_1252 (by decide) ?_
    refine lv_iadd hx hb dL_law_1253 ?_
    refine xl_i (y := nI (i + 3)) (nI_add i 3) ?_
    refine va_sld hx hb hX hbl hbA hS (x_si (k := 3) (by decide) hi hL) dL_law_1254 ?_
    refine xl_i (y := xs (i + 3)) (congrArg xs (x_sc (k := 3) (by decide) hi hL)) ?_
    refine lv_i2l (v := (xs (i + 3)).toInt64) hx hb dL_law_1255 rfl ?_
    refine lv_bipush (v := 32) hx hb dL_law_1256 (by decide) ?_
    refine lv_lshl hx hb dL_law_1258 rfl ?_
    refine lv_topl (fun x_35 ex_35 => ?_)
    refine lv_aload_n hx hb dL_law_1259 rfl (lv_at hl 3 rfl) ?_
    refine lv_iload_n hx hb dL_law_1260 rfl (lv_at hl 0 rfl) ?_
    refine lv_iconst (v := 4) hx hb dL_law_1261 (by decide) ?_
    refine lv_iadd hx hb dL_law_1262 ?_
    refine xl_i (y := nI (i + 4)) (nI_add i 4) ?_
    refine va_sld hx hb hX hbl hbA hS (x_si (k := 4) (by decide) hi hL) dL_law_1263 ?_
    refine xl_i (y := xs (i + 4)) (congrArg xs (x_sc (k := 4) (by decide) hi hL)) ?_
    refine lv_i2l (v := (xs (i + 4)).toInt64) hx hb dL_law_1264 rfl ?_
    refine lv_ldc2 (v := 4294967295) hx hb hown (hu _ uw1261) dL_law_1265 ?_
    refine lv_land hx hb dL_law_1268 ?_
    refine lv_topl (fun x_36 ex_36 => ?_)
    refine lv_lor hx hb dL_law_1269 ?_
    refine lv_topl (fun x_37 ex_37 => ?_)
    refine xc_VlT (wr := [(h0, .inr (8, [.ref qh, .ref qk, .ref qd, .int b0, .ref qa, .ref qm, .ref qs, .ref qp, .ref ql, .ref qt, .ref qz, .ref qf])), (qz, .inl (cS, 4, .inr (.inr (.inr (.inr (xSh s0 s1 s2 s3)))))), (s0, .inr (4, [.int bt0, .int (nI (sz0)), .ref sn0])), (s1, .inr (4, [.int bt1, .int (nI (sz1)), .ref sn1])), (s2, .inr (4, [.int bt2, .int (nI (sz2)), .ref sn2])), (s3, .inr (4, [.int bt3, .int (nI (sz3)), .ref sn3])), (sn0, .inl (cJ, 40, .inr (.inl nu0))), (sn1, .inl (cJ, 40, .inr (.inl nv_32))), (sn2, .inl (cJ, 40, .inr (.inl nu2))), (sn3, .inl (cJ, 40, .inr (.inl nu3))), (qf, .inl (cI, 7, .inl f2_33))]) hF (c_X9_write_1 l D cI cJ cZ cS ta sa sv H.size g0 m_ys m_yk m_yo m_yt b0 m_yfa m_yfe m_mL m_mS m_mM m_yro m_yhe m_ygr m_mF m_mC m_mY m_yta z m_mf m_mt m_mv m_mw m_ywa m_ybi m_ysi m_ynu m_ymo m_bi m_sq m_nb m_mq (xs (i + 2)) x_37 sz1 r_z1 hsz1 m_hsq) kv_L_165 ⟨rfl, rfl, Nat.le_of_ble_eq_true rfl, Nat.le_of_ble_eq_true rfl⟩ ⟨Nat.le_of_ble_eq_true rfl, Nat.le_of_ble_eq_true rfl⟩ hK hN hZ hP hD hS hA [0, 2, 3, 4, 1] [5, 6, 7, 8, 9, 10, 11, 12, 13, 14, 15] rfl rfl rfl rfl (by decide) 0 rfl rfl rfl rfl hl.1 rfl (Nat.le_of_ble_eq_true rfl) dL_law_1270 (fun r_38 u_r_38 H locs hw_r_38 hP hD hS => ?_)
    obtain ⟨nb2_39, mq2_40⟩ := u_r_38
    try dsimp only at hw_r_38
    obtain ⟨hw_r_38, i_41, i_42⟩ := hw_r_38
    have hP : va_P D vwCl ([(h0, .inr (8, [.ref qh, .ref qk, .ref qd, .int b0, .ref qa, .ref qm, .ref qs, .ref qp, .ref ql, .ref qt, .ref qz, .ref qf])), (qz, .inl (cS, 4, .inr (.inr (.inr (.inr (xSh s0 s1 s2 s3)))))), (s0, .inr (4, [.int bt0, .int (nI (sz0)), .ref sn0])), (s1, .inr (4, [.int bt1, .int (nI (sz1)), .ref sn1])), (s2, .inr (4, [.int bt2, .int (nI (sz2)), .ref sn2])), (s3, .inr (4, [.int bt3, .int (nI (sz3)), .ref sn3])), (sn0, .inl (cJ, 40, .inr (.inl nu0))), (sn1, .inl (cJ, 40, .inr (.inl nv_32))), (sn2, .inl (cJ, 40, .inr (.inl nu2))), (sn3, .inl (cJ, 40, .inr (.inl nu3))), (qf, .inl (cI, 7, .inl f2_33)), (g0, .inr (9, [.ref m_ys, .ref m_yk, .ref m_yo, .ref m_yt, .int b0, .ref m_yfa, .ref m_yfe, .int m_mL, .int m_mS, .int m_mM, .ref m_yro, .ref m_yhe, .ref m_ygr, .int m_mF, .int m_mC, .int m_mY, .ref m_yta, .int (nI (z)), .int (nI (m_mf)), .int (nI (m_mt)), .int m_mv, .int m_mw, .ref m_ywa, .ref m_ybi, .ref m_ysi, .ref m_ynu, .ref m_ymo])), (m_ybi, .inl (cI, 4, .inl m_bi)), (m_ysi, .inl (cI, 4, .inl m_sq)), (m_ynu, .inl (cJ, 160, .inr (.inl nb2_39))), (m_yt, .inl (cI, 7, .inl mq2_40))] ++ tl) H := hP
    have hD : va_D A ([(h0, .inr (8, [.ref qh, .ref qk, .ref qd, .int b0, .ref qa, .ref qm, .ref qs, .ref qp, .ref ql, .ref qt, .ref qz, .ref qf])), (qz, .inl (cS, 4, .inr (.inr (.inr (.inr (xSh s0 s1 s2 s3)))))), (s0, .inr (4, [.int bt0, .int (nI (sz0)), .ref sn0])), (s1, .inr (4, [.int bt1, .int (nI (sz1)), .ref sn1])), (s2, .inr (4, [.int bt2, .int (nI (sz2)), .ref sn2])), (s3, .inr (4, [.int bt3, .int (nI (sz3)), .ref sn3])), (sn0, .inl (cJ, 40, .inr (.inl nu0))), (sn1, .inl (cJ, 40, .inr (.inl nv_32))), (sn2, .inl (cJ, 40, .inr (.inl nu2))), (sn3, .inl (cJ, 40, .inr (.inl nu3))), (qf, .inl (cI, 7, .inl f2_33)), (g0, .inr (9, [.ref m_ys, .ref m_yk, .ref m_yo, .ref m_yt, .int b0, .ref m_yfa, .ref m_yfe, .int m_mL, .int m_mS, .int m_mM, .ref m_yro, .ref m_yhe, .ref m_ygr, .int m_mF, .int m_mC, .int m_mY, .ref m_yta, .int (nI (z)), .int (nI (m_mf)), .int (nI (m_mt)), .int m_mv, .int m_mw, .ref m_ywa, .ref m_ybi, .ref m_ysi, .ref m_ynu, .ref m_ymo])), (m_ybi, .inl (cI, 4, .inl m_bi)), (m_ysi, .inl (cI, 4, .inl m_sq)), (m_ynu, .inl (cJ, 160, .inr (.inl nb2_39))), (m_yt, .inl (cI, 7, .inl mq2_40))] ++ tl) := hD
    subst hw_r_38
    refine W.lcmp hx hb dL_law_1273 ?_
    refine xl_i (y := 0) (xq_eq (sp_wreq (by omega) r_b1 r_n1)) ?_
    refine lv_if_eq (tgt := 1483) hx hb dL_law_1274 (by decide) (fun c_43 => ?_) (fun c_43 => absurd (by decide) c_43)
    exact kkx _ _ _ nu0 nv_32 nu2 nu3 f2_33 mq2_40 nb2_39 (xt_P hP [0, 1, 2, 3, 4, 5, 6, 7, 8, 9, 10, 11, 15, 12, 13, 14] rfl) (xt_D hD [0, 1, 2, 3, 4, 5, 6, 7, 8, 9, 10, 11, 15, 12, 13, 14] (by decide +kernel) rfl) (fun j hj => (i_42 (0 + j) (by omega)).trans (r_n0 j hj)) (fun j hj => by rw [i_41 j hj, r_n1 j hj, r_b1, i_34 j]) (fun j hj => (i_42 (80 + j) (by omega)).trans (r_n2 j hj)) (fun j hj => (i_42 (120 + j) (by omega)).trans (r_n3 j hj)) hS hl
  · skip
    refine lv_aload_n hx hb dL_law_1205 rfl (lv_at hl 2 rfl) ?_
    refine lv_aload_n hx hb dL_law_1206 rfl (lv_at hl 3 rfl) ?_
    refine lv_iload_n hx hb dL_law_1207 rfl (lv_at hl 0 rfl) ?_
    refine lv_iconst (v := 1) hx hb dL_law_1208 (by decide) ?_
    refine lv_iadd hx hb dL_law_1209 ?_
    refine xl_i (y := nI (i + 1)) (nI_add i 1) ?_
    refine va_sld hx hb hX hbl hbA hS (x_si (k := 1) (by decide) hi hL) dL_law_1210 ?_
    refine xl_i (y := xs (i + 1)) (congrArg xs (x_sc (k := 1) (by decide) hi hL)) ?_
    refine xl_i (y := 2) eq1 ?_
    refine lv_aload_n hx hb dL_law_1211 rfl (lv_at hl 3 rfl) ?_
    refine lv_iload_n hx hb dL_law_1212 rfl (lv_at hl 0 rfl) ?_
    refine lv_iconst (v := 2) hx hb dL_law_1213 (by decide) ?_
    refine lv_iadd hx hb dL_law_1214 ?_
    refine xl_i (y := nI (i + 2)) (nI_add i 2) ?_
    refine va_sld hx hb hX hbl hbA hS (x_si (k := 2) (by decide) hi hL) dL_law_1215 ?_
    refine xl_i (y := xs (i + 2)) (congrArg xs (x_sc (k := 2) (by decide) hi hL)) ?_
    refine lv_aload_n hx hb dL_law_1216 rfl (lv_at hl 3 rfl) ?_
    refine lv_iload_n hx hb dL_law_1217 rfl (lv_at hl 0 rfl) ?_
    refine lv_iconst (v := 3) hx hb dL_law_1218 (by decide) ?_
    refine lv_iadd hx hb dL_law_1219 ?_
    refine xl_i (y := nI (i + 3)) (nI_add i 3) ?_
    refine va_sld hx hb hX hbl hbA hS (x_si (k := 3) (by decide) hi hL) dL_law_1220 ?_
    refine xl_i (y := xs (i + 3)) (congrArg xs (x_sc (k := 3) (by decide) hi hL)) ?_
    refine lv_i2l (v := (xs (i + 3)).toInt64) hx hb dL_law_1221 rfl ?_
    refine lv_bipush (v := 32) hx hb dL_law_1222 (by decide) ?_
    refine lv_lshl hx hb dL_law_1224 rfl ?_
    refine lv_topl (fun x_44 ex_44 => ?_)
    refine lv_aload_n hx hb dL_law_1225 rfl (lv_at hl 3 rfl) ?_
    refine lv_iload_n hx hb dL_law_1226 rfl (lv_at hl 0 rfl) ?_
    refine lv_iconst (v := 4) hx hb dL_law_1227 (by decide) ?_
    refine lv_iadd hx hb dL_law_1228 ?_
    refine xl_i (y := nI (i + 4)) (nI_add i 4) ?_
    refine va_sld hx hb hX hbl hbA hS (x_si (k := 4) (by decide) hi hL) dL_law_1229 ?_
    refine xl_i (y := xs (i + 4)) (congrArg xs (x_sc (k := 4) (by decide) hi hL)) ?_
    refine lv_i2l (v := (xs (i + 4)).toInt64) hx hb dL_law_1230 rfl ?_
    refine lv_ldc2 (v := 4294967295) hx hb hown (hu _ uw1261) dL_law_1231 ?_
    refine lv_land hx hb dL_law_1234 ?_
    refine lv_topl (fun x_45 ex_45 => ?_)
    refine lv_lor hx hb dL_law_1235 ?_
    refine lv_topl (fun x_46 ex_46 => ?_)
    refine xc_VlT (wr := [(g0, .inr (9, [.ref m_ys, .ref m_yk, .ref m_yo, .ref m_yt, .int b0, .ref m_yfa, .ref m_yfe, .int m_mL, .int m_mS, .int m_mM, .ref m_yro, .ref m_yhe, .ref m_ygr, .int m_mF, .int m_mC, .int m_mY, .ref m_yta, .int (nI (z)), .int (nI (m_mf)), .int (nI (m_mt)), .int m_mv, .int m_mw, .ref m_ywa, .ref m_ybi, .ref m_ysi, .ref m_ynu, .ref m_ymo])), (m_yt, .inl (cI, 7, .inl m_mq)), (m_ybi, .inl (cI, 4, .inl m_bi)), (m_ysi, .inl (cI, 4, .inl m_sq)), (m_ynu, .inl (cJ, 160, .inr (.inl m_nb)))]) hF (c_X8_write_2 l D cI cJ cZ cS ta sa sv H.size h0 qh qk qd b0 qa qm qs qp ql qt qz qf s0 s1 s2 s3 bt0 sz0 sn0 bt1 sz1 sn1 bt2 sz2 sn2 bt3 sz3 sn3 nu0 nu1 nu2 nu3 ff (xs (i + 2)) x_46 hsz0 hsz1 hsz2 hsz3) kv_L_161 ⟨rfl, rfl, Nat.le_of_ble_eq_true rfl, Nat.le_of_ble_eq_true rfl⟩ ⟨Nat.le_of_ble_eq_true rfl, Nat.le_of_ble_eq_true rfl⟩ hK hN hZ hP hD hS hA [0, 1, 2, 3, 4, 5, 6, 7, 8, 9, 10] [11, 12, 13, 14, 15] rfl rfl rfl rfl (by decide) 0 rfl rfl rfl rfl hl.1 rfl (Nat.le_of_ble_eq_true rfl) dL_law_1236 (fun r_47 u_r_47 H locs hw_r_47 hP hD hS => ?_)
    obtain ⟨nv_48, f2_49⟩ := u_r_47
    try dsimp only at hw_r_47
    obtain ⟨hw_r_47, i_50⟩ := hw_r_47
    have hP : va_P D vwCl ([(g0, .inr (9, [.ref m_ys, .ref m_yk, .ref m_yo, .ref m_yt, .int b0, .ref m_yfa, .ref m_yfe, .int m_mL, .int m_mS, .int m_mM, .ref m_yro, .ref m_yhe, .ref m_ygr, .int m_mF, .int m_mC, .int m_mY, .ref m_yta, .int (nI (z)), .int (nI (m_mf)), .int (nI (m_mt)), .int m_mv, .int m_mw, .ref m_ywa, .ref m_ybi, .ref m_ysi, .ref m_ynu, .ref m_ymo])), (m_yt, .inl (cI, 7, .inl m_mq)), (m_ybi, .inl (cI, 4, .inl m_bi)), (m_ysi, .inl (cI, 4, .inl m_sq)), (m_ynu, .inl (cJ, 160, .inr (.inl m_nb))), (h0, .inr (8, [.ref qh, .ref qk, .ref qd, .int b0, .ref qa, .ref qm, .ref qs, .ref qp, .ref ql, .ref qt, .ref qz, .ref qf])), (qz, .inl (cS, 4, .inr (.inr (.inr (.inr (xSh s0 s1 s2 s3)))))), (s0, .inr (4, [.int bt0, .int (nI (sz0)), .ref sn0])), (s1, .inr (4, [.int bt1, .int (nI (sz1)), .ref sn1])), (s2, .inr (4, [.int bt2, .int (nI (sz2)), .ref sn2])), (s3, .inr (4, [.int bt3, .int (nI (sz3)), .ref sn3])), (sn0, .inl (cJ, 40, .inr (.inl nu0))), (sn1, .inl (cJ, 40, .inr (.inl nu1))), (sn2, .inl (cJ, 40, .inr (.inl nv_48))), (sn3, .inl (cJ, 40, .inr (.inl nu3))), (qf, .inl (cI, 7, .inl f2_49))] ++ tl) H := hP
    have hD : va_D A ([(g0, .inr (9, [.ref m_ys, .ref m_yk, .ref m_yo, .ref m_yt, .int b0, .ref m_yfa, .ref m_yfe, .int m_mL, .int m_mS, .int m_mM, .ref m_yro, .ref m_yhe, .ref m_ygr, .int m_mF, .int m_mC, .int m_mY, .ref m_yta, .int (nI (z)), .int (nI (m_mf)), .int (nI (m_mt)), .int m_mv, .int m_mw, .ref m_ywa, .ref m_ybi, .ref m_ysi, .ref m_ynu, .ref m_ymo])), (m_yt, .inl (cI, 7, .inl m_mq)), (m_ybi, .inl (cI, 4, .inl m_bi)), (m_ysi, .inl (cI, 4, .inl m_sq)), (m_ynu, .inl (cJ, 160, .inr (.inl m_nb))), (h0, .inr (8, [.ref qh, .ref qk, .ref qd, .int b0, .ref qa, .ref qm, .ref qs, .ref qp, .ref ql, .ref qt, .ref qz, .ref qf])), (qz, .inl (cS, 4, .inr (.inr (.inr (.inr (xSh s0 s1 s2 s3)))))), (s0, .inr (4, [.int bt0, .int (nI (sz0)), .ref sn0])), (s1, .inr (4, [.int bt1, .int (nI (sz1)), .ref sn1])), (s2, .inr (4, [.int bt2, .int (nI (sz2)), .ref sn2])), (s3, .inr (4, [.int bt3, .int (nI (sz3)), .ref sn3])), (sn0, .inl (cJ, 40, .inr (.inl nu0))), (sn1, .inl (cJ, 40, .inr (.inl nu1))), (sn2, .inl (cJ, 40, .inr (.inl nv_48))), (sn3, .inl (cJ, 40, .inr (.inl nu3))), (qf, .inl (cI, 7, .inl f2_49))] ++ tl) := hD
    subst hw_r_47
    refine lv_aload_n hx hb dL_law_1239 rfl (lv_at hl 1 rfl) ?_
    refine lv_aload_n hx hb dL_law_1240 rfl (lv_at hl 3 rfl) ?_
    refine lv_iload_n hx hb dL_law_1241 rfl (lv_at hl 0 rfl) ?_
    refine lv_iconst (v := 1) hx hb dL_law_1242 (by decide) ?_
    refine lv_iadd hx hb dL_law_1243 ?_
    refine xl_i (y := nI (i + 1)) (nI_add i 1) ?_
    refine va_sld hx hb hX hbl hbA hS (x_si (k := 1) (by decide) hi hL) dL_law_1244 ?_
    refine xl_i (y := xs (i + 1)) (congrArg xs (x_sc (k := 1) (by decide) hi hL)) ?_
    refine xl_i (y := 2) eq1 ?_
    refine lv_aload_n hx hb dL_law_1245 rfl (lv_at hl 3 rfl) ?_
    refine lv_iload_n hx hb dL_law_1246 rfl (lv_at hl 0 rfl) ?_
    refine lv_iconst (v := 2) hx hb dL_law_1247 (by decide) ?_
    refine lv_iadd hx hb dL_law_1248 ?_
    refine xl_i (y := nI (i + 2)) (nI_add i 2) ?_
    refine va_sld hx hb hX hbl hbA hS (x_si (k := 2) (by decide) hi hL) dL_law_1249 ?_
    refine xl_i (y := xs (i + 2)) (congrArg xs (x_sc (k := 2) (by decide) hi hL)) ?_
    refine lv_aload_n hx hb dL_law_1250 rfl (lv_at hl 3 rfl) ?_
    refine lv_iload_n hx hb dL_law_1251 rfl (lv_at hl 0 rfl) ?_
    refine lv_iconst (v := 3) hx hb dL_law_1252 (by decide) ?_
    refine lv_iadd hx hb dL_law_1253 ?_
    refine xl_i (y := nI (i + 3)) (nI_add i 3) ?_
    refine va_sld hx hb hX hbl hbA hS (x_si (k := 3) (by decide) hi hL) dL_law_1254 ?_
    refine xl_i (y := xs (i + 3)) (congrArg xs (x_sc (k := 3) (by decide) hi hL)) ?_
    refine lv_i2l (v := (xs (i + 3)).toInt64) hx hb dL_law_1255 rfl ?_
    refine lv_bipush (v := 32) hx hb dL_law_1256 (by decide) ?_
    refine lv_lshl hx hb dL_law_1258 rfl ?_
    refine lv_topl (fun x_51 ex_51 => ?_)
    refine lv_aload_n hx hb dL_law_1259 rfl (lv_at hl 3 rfl) ?_
    refine lv_iload_n hx hb dL_law_1260 rfl (lv_at hl 0 rfl) ?_
    refine lv_iconst (v := 4) hx hb dL_law_1261 (by decide) ?_
    refine lv_iadd hx hb dL_law_1262 ?_
    refine xl_i (y := nI (i + 4)) (nI_add i 4) ?_
    refine va_sld hx hb hX hbl hbA hS (x_si (k := 4) (by decide) hi hL) dL_law_1263 ?_
    refine xl_i (y := xs (i + 4)) (congrArg xs (x_sc (k := 4) (by decide) hi hL)) ?_
    refine lv_i2l (v := (xs (i + 4)).toInt64) hx hb dL_law_1264 rfl ?_
    refine lv_ldc2 (v := 4294967295) hx hb hown (hu _ uw1261) dL_law_1265 ?_
    refine lv_land hx hb dL_law_1268 ?_
    refine lv_topl (fun x_52 ex_52 => ?_)
    refine lv_lor hx hb dL_law_1269 ?_
    refine lv_topl (fun x_53 ex_53 => ?_)
    refine xc_VlT (wr := [(h0, .inr (8, [.ref qh, .ref qk, .ref qd, .int b0, .ref qa, .ref qm, .ref qs, .ref qp, .ref ql, .ref qt, .ref qz, .ref qf])), (qz, .inl (cS, 4, .inr (.inr (.inr (.inr (xSh s0 s1 s2 s3)))))), (s0, .inr (4, [.int bt0, .int (nI (sz0)), .ref sn0])), (s1, .inr (4, [.int bt1, .int (nI (sz1)), .ref sn1])), (s2, .inr (4, [.int bt2, .int (nI (sz2)), .ref sn2])), (s3, .inr (4, [.int bt3, .int (nI (sz3)), .ref sn3])), (sn0, .inl (cJ, 40, .inr (.inl nu0))), (sn1, .inl (cJ, 40, .inr (.inl nu1))), (sn2, .inl (cJ, 40, .inr (.inl nv_48))), (sn3, .inl (cJ, 40, .inr (.inl nu3))), (qf, .inl (cI, 7, .inl f2_49))]) hF (c_X9_write_2 l D cI cJ cZ cS ta sa sv H.size g0 m_ys m_yk m_yo m_yt b0 m_yfa m_yfe m_mL m_mS m_mM m_yro m_yhe m_ygr m_mF m_mC m_mY m_yta z m_mf m_mt m_mv m_mw m_ywa m_ybi m_ysi m_ynu m_ymo m_bi m_sq m_nb m_mq (xs (i + 2)) x_53 sz2 r_z2 hsz2 m_hsq) kv_L_165 ⟨rfl, rfl, Nat.le_of_ble_eq_true rfl, Nat.le_of_ble_eq_true rfl⟩ ⟨Nat.le_of_ble_eq_true rfl, Nat.le_of_ble_eq_true rfl⟩ hK hN hZ hP hD hS hA [0, 2, 3, 4, 1] [5, 6, 7, 8, 9, 10, 11, 12, 13, 14, 15] rfl rfl rfl rfl (by decide) 0 rfl rfl rfl rfl hl.1 rfl (Nat.le_of_ble_eq_true rfl) dL_law_1270 (fun r_54 u_r_54 H locs hw_r_54 hP hD hS => ?_)
    obtain ⟨nb2_55, mq2_56⟩ := u_r_54
    try dsimp only at hw_r_54
    obtain ⟨hw_r_54, i_57, i_58⟩ := hw_r_54
    have hP : va_P D vwCl ([(h0, .inr (8, [.ref qh, .ref qk, .ref qd, .int b0, .ref qa, .ref qm, .ref qs, .ref qp, .ref ql, .ref qt, .ref qz, .ref qf])), (qz, .inl (cS, 4, .inr (.inr (.inr (.inr (xSh s0 s1 s2 s3)))))), (s0, .inr (4, [.int bt0, .int (nI (sz0)), .ref sn0])), (s1, .inr (4, [.int bt1, .int (nI (sz1)), .ref sn1])), (s2, .inr (4, [.int bt2, .int (nI (sz2)), .ref sn2])), (s3, .inr (4, [.int bt3, .int (nI (sz3)), .ref sn3])), (sn0, .inl (cJ, 40, .inr (.inl nu0))), (sn1, .inl (cJ, 40, .inr (.inl nu1))), (sn2, .inl (cJ, 40, .inr (.inl nv_48))), (sn3, .inl (cJ, 40, .inr (.inl nu3))), (qf, .inl (cI, 7, .inl f2_49)), (g0, .inr (9, [.ref m_ys, .ref m_yk, .ref m_yo, .ref m_yt, .int b0, .ref m_yfa, .ref m_yfe, .int m_mL, .int m_mS, .int m_mM, .ref m_yro, .ref m_yhe, .ref m_ygr, .int m_mF, .int m_mC, .int m_mY, .ref m_yta, .int (nI (z)), .int (nI (m_mf)), .int (nI (m_mt)), .int m_mv, .int m_mw, .ref m_ywa, .ref m_ybi, .ref m_ysi, .ref m_ynu, .ref m_ymo])), (m_ybi, .inl (cI, 4, .inl m_bi)), (m_ysi, .inl (cI, 4, .inl m_sq)), (m_ynu, .inl (cJ, 160, .inr (.inl nb2_55))), (m_yt, .inl (cI, 7, .inl mq2_56))] ++ tl) H := hP
    have hD : va_D A ([(h0, .inr (8, [.ref qh, .ref qk, .ref qd, .int b0, .ref qa, .ref qm, .ref qs, .ref qp, .ref ql, .ref qt, .ref qz, .ref qf])), (qz, .inl (cS, 4, .inr (.inr (.inr (.inr (xSh s0 s1 s2 s3)))))), (s0, .inr (4, [.int bt0, .int (nI (sz0)), .ref sn0])), (s1, .inr (4, [.int bt1, .int (nI (sz1)), .ref sn1])), (s2, .inr (4, [.int bt2, .int (nI (sz2)), .ref sn2])), (s3, .inr (4, [.int bt3, .int (nI (sz3)), .ref sn3])), (sn0, .inl (cJ, 40, .inr (.inl nu0))), (sn1, .inl (cJ, 40, .inr (.inl nu1))), (sn2, .inl (cJ, 40, .inr (.inl nv_48))), (sn3, .inl (cJ, 40, .inr (.inl nu3))), (qf, .inl (cI, 7, .inl f2_49)), (g0, .inr (9, [.ref m_ys, .ref m_yk, .ref m_yo, .ref m_yt, .int b0, .ref m_yfa, .ref m_yfe, .int m_mL, .int m_mS, .int m_mM, .ref m_yro, .ref m_yhe, .ref m_ygr, .int m_mF, .int m_mC, .int m_mY, .ref m_yta, .int (nI (z)), .int (nI (m_mf)), .int (nI (m_mt)), .int m_mv, .int m_mw, .ref m_ywa, .ref m_ybi, .ref m_ysi, .ref m_ynu, .ref m_ymo])), (m_ybi, .inl (cI, 4, .inl m_bi)), (m_ysi, .inl (cI, 4, .inl m_sq)), (m_ynu, .inl (cJ, 160, .inr (.inl nb2_55))), (m_yt, .inl (cI, 7, .inl mq2_56))] ++ tl) := hD
    subst hw_r_54
    refine W.lcmp hx hb dL_law_1273 ?_
    refine xl_i (y := 0) (xq_eq (sp_wreq (by omega) r_b2 r_n2)) ?_
    refine lv_if_eq (tgt := 1483) hx hb dL_law_1274 (by decide) (fun c_59 => ?_) (fun c_59 => absurd (by decide) c_59)
    exact kkx _ _ _ nu0 nu1 nv_48 nu3 f2_49 mq2_56 nb2_55 (xt_P hP [0, 1, 2, 3, 4, 5, 6, 7, 8, 9, 10, 11, 15, 12, 13, 14] rfl) (xt_D hD [0, 1, 2, 3, 4, 5, 6, 7, 8, 9, 10, 11, 15, 12, 13, 14] (by decide +kernel) rfl) (fun j hj => (i_58 (0 + j) (by omega)).trans (r_n0 j hj)) (fun j hj => (i_58 (40 + j) (by omega)).trans (r_n1 j hj)) (fun j hj => by rw [i_57 j hj, r_n2 j hj, r_b2, i_50 j]) (fun j hj => (i_58 (120 + j) (by omega)).trans (r_n3 j hj)) hS hl
  · skip
    refine lv_aload_n hx hb dL_law_1205 rfl (lv_at hl 2 rfl) ?_
    refine lv_aload_n hx hb dL_law_1206 rfl (lv_at hl 3 rfl) ?_
    refine lv_iload_n hx hb dL_law_1207 rfl (lv_at hl 0 rfl) ?_
    refine lv_iconst (v := 1) hx hb dL_law_1208 (by decide) ?_
    refine lv_iadd hx hb dL_law_1209 ?_
    refine xl_i (y := nI (i + 1)) (nI_add i 1) ?_
    refine va_sld hx hb hX hbl hbA hS (x_si (k := 1) (by decide) hi hL) dL_law_1210 ?_
    refine xl_i (y := xs (i + 1)) (congrArg xs (x_sc (k := 1) (by decide) hi hL)) ?_
    refine xl_i (y := 3) eq1 ?_
    refine lv_aload_n hx hb dL_law_1211 rfl (lv_at hl 3 rfl) ?_
    refine lv_iload_n hx hb dL_law_1212 rfl (lv_at hl 0 rfl) ?_
    refine lv_iconst (v := 2) hx hb dL_law_1213 (by decide) ?_
    refine lv_iadd hx hb dL_law_1214 ?_
    refine xl_i (y := nI (i + 2)) (nI_add i 2) ?_
    refine va_sld hx hb hX hbl hbA hS (x_si (k := 2) (by decide) hi hL) dL_law_1215 ?_
    refine xl_i (y := xs (i + 2)) (congrArg xs (x_sc (k := 2) (by decide) hi hL)) ?_
    refine lv_aload_n hx hb dL_law_1216 rfl (lv_at hl 3 rfl) ?_
    refine lv_iload_n hx hb dL_law_1217 rfl (lv_at hl 0 rfl) ?_
    refine lv_iconst (v := 3) hx hb dL_law_1218 (by decide) ?_
    refine lv_iadd hx hb dL_law_1219 ?_
    refine xl_i (y := nI (i + 3)) (nI_add i 3) ?_
    refine va_sld hx hb hX hbl hbA hS (x_si (k := 3) (by decide) hi hL) dL_law_1220 ?_
    refine xl_i (y := xs (i + 3)) (congrArg xs (x_sc (k := 3) (by decide) hi hL)) ?_
    refine lv_i2l (v := (xs (i + 3)).toInt64) hx hb dL_law_1221 rfl ?_
    refine lv_bipush (v := 32) hx hb dL_law_1222 (by decide) ?_
    refine lv_lshl hx hb dL_law_1224 rfl ?_
    refine lv_topl (fun x_60 ex_60 => ?_)
    refine lv_aload_n hx hb dL_law_1225 rfl (lv_at hl 3 rfl) ?_
    refine lv_iload_n hx hb dL_law_1226 rfl (lv_at hl 0 rfl) ?_
    refine lv_iconst (v := 4) hx hb dL_law_1227 (by decide) ?_
    refine lv_iadd hx hb dL_law_1228 ?_
    refine xl_i (y := nI (i + 4)) (nI_add i 4) ?_
    refine va_sld hx hb hX hbl hbA hS (x_si (k := 4) (by decide) hi hL) dL_law_1229 ?_
    refine xl_i (y := xs (i + 4)) (congrArg xs (x_sc (k := 4) (by decide) hi hL)) ?_
    refine lv_i2l (v := (xs (i + 4)).toInt64) hx hb dL_law_1230 rfl ?_
    refine lv_ldc2 (v := 4294967295) hx hb hown (hu _ uw1261) dL_law_1231 ?_
    refine lv_land hx hb dL_law_1234 ?_
    refine lv_topl (fun x_61 ex_61 => ?_)
    refine lv_lor hx hb dL_law_1235 ?_
    refine lv_topl (fun x_62 ex_62 => ?_)
    refine xc_VlT (wr := [(g0, .inr (9, [.ref m_ys, .ref m_yk, .ref m_yo, .ref m_yt, .int b0, .ref m_yfa, .ref m_yfe, .int m_mL, .int m_mS, .int m_mM, .ref m_yro, .ref m_yhe, .ref m_ygr, .int m_mF, .int m_mC, .int m_mY, .ref m_yta, .int (nI (z)), .int (nI (m_mf)), .int (nI (m_mt)), .int m_mv, .int m_mw, .ref m_ywa, .ref m_ybi, .ref m_ysi, .ref m_ynu, .ref m_ymo])), (m_yt, .inl (cI, 7, .inl m_mq)), (m_ybi, .inl (cI, 4, .inl m_bi)), (m_ysi, .inl (cI, 4, .inl m_sq)), (m_ynu, .inl (cJ, 160, .inr (.inl m_nb)))]) hF (c_X8_write_3 l D cI cJ cZ cS ta sa sv H.size h0 qh qk qd b0 qa qm qs qp ql qt qz qf s0 s1 s2 s3 bt0 sz0 sn0 bt1 sz1 sn1 bt2 sz2 sn2 bt3 sz3 sn3 nu0 nu1 nu2 nu3 ff (xs (i + 2)) x_62 hsz0 hsz1 hsz2 hsz3) kv_L_161 ⟨rfl, rfl, Nat.le_of_ble_eq_true rfl, Nat.le_of_ble_eq_true rfl⟩ ⟨Nat.le_of_ble_eq_true rfl, Nat.le_of_ble_eq_true rfl⟩ hK hN hZ hP hD hS hA [0, 1, 2, 3, 4, 5, 6, 7, 8, 9, 10] [11, 12, 13, 14, 15] rfl rfl rfl rfl (by decide) 0 rfl rfl rfl rfl hl.1 rfl (Nat.le_of_ble_eq_true rfl) dL_law_1236 (fun r_63 u_r_63 H locs hw_r_63 hP hD hS => ?_)
    obtain ⟨nv_64, f2_65⟩ := u_r_63
    try dsimp only at hw_r_63
    obtain ⟨hw_r_63, i_66⟩ := hw_r_63
    have hP : va_P D vwCl ([(g0, .inr (9, [.ref m_ys, .ref m_yk, .ref m_yo, .ref m_yt, .int b0, .ref m_yfa, .ref m_yfe, .int m_mL, .int m_mS, .int m_mM, .ref m_yro, .ref m_yhe, .ref m_ygr, .int m_mF, .int m_mC, .int m_mY, .ref m_yta, .int (nI (z)), .int (nI (m_mf)), .int (nI (m_mt)), .int m_mv, .int m_mw, .ref m_ywa, .ref m_ybi, .ref m_ysi, .ref m_ynu, .ref m_ymo])), (m_yt, .inl (cI, 7, .inl m_mq)), (m_ybi, .inl (cI, 4, .inl m_bi)), (m_ysi, .inl (cI, 4, .inl m_sq)), (m_ynu, .inl (cJ, 160, .inr (.inl m_nb))), (h0, .inr (8, [.ref qh, .ref qk, .ref qd, .int b0, .ref qa, .ref qm, .ref qs, .ref qp, .ref ql, .ref qt, .ref qz, .ref qf])), (qz, .inl (cS, 4, .inr (.inr (.inr (.inr (xSh s0 s1 s2 s3)))))), (s0, .inr (4, [.int bt0, .int (nI (sz0)), .ref sn0])), (s1, .inr (4, [.int bt1, .int (nI (sz1)), .ref sn1])), (s2, .inr (4, [.int bt2, .int (nI (sz2)), .ref sn2])), (s3, .inr (4, [.int bt3, .int (nI (sz3)), .ref sn3])), (sn0, .inl (cJ, 40, .inr (.inl nu0))), (sn1, .inl (cJ, 40, .inr (.inl nu1))), (sn2, .inl (cJ, 40, .inr (.inl nu2))), (sn3, .inl (cJ, 40, .inr (.inl nv_64))), (qf, .inl (cI, 7, .inl f2_65))] ++ tl) H := hP
    have hD : va_D A ([(g0, .inr (9, [.ref m_ys, .ref m_yk, .ref m_yo, .ref m_yt, .int b0, .ref m_yfa, .ref m_yfe, .int m_mL, .int m_mS, .int m_mM, .ref m_yro, .ref m_yhe, .ref m_ygr, .int m_mF, .int m_mC, .int m_mY, .ref m_yta, .int (nI (z)), .int (nI (m_mf)), .int (nI (m_mt)), .int m_mv, .int m_mw, .ref m_ywa, .ref m_ybi, .ref m_ysi, .ref m_ynu, .ref m_ymo])), (m_yt, .inl (cI, 7, .inl m_mq)), (m_ybi, .inl (cI, 4, .inl m_bi)), (m_ysi, .inl (cI, 4, .inl m_sq)), (m_ynu, .inl (cJ, 160, .inr (.inl m_nb))), (h0, .inr (8, [.ref qh, .ref qk, .ref qd, .int b0, .ref qa, .ref qm, .ref qs, .ref qp, .ref ql, .ref qt, .ref qz, .ref qf])), (qz, .inl (cS, 4, .inr (.inr (.inr (.inr (xSh s0 s1 s2 s3)))))), (s0, .inr (4, [.int bt0, .int (nI (sz0)), .ref sn0])), (s1, .inr (4, [.int bt1, .int (nI (sz1)), .ref sn1])), (s2, .inr (4, [.int bt2, .int (nI (sz2)), .ref sn2])), (s3, .inr (4, [.int bt3, .int (nI (sz3)), .ref sn3])), (sn0, .inl (cJ, 40, .inr (.inl nu0))), (sn1, .inl (cJ, 40, .inr (.inl nu1))), (sn2, .inl (cJ, 40, .inr (.inl nu2))), (sn3, .inl (cJ, 40, .inr (.inl nv_64))), (qf, .inl (cI, 7, .inl f2_65))] ++ tl) := hD
    subst hw_r_63
    refine lv_aload_n hx hb dL_law_1239 rfl (lv_at hl 1 rfl) ?_
    refine lv_aload_n hx hb dL_law_1240 rfl (lv_at hl 3 rfl) ?_
    refine lv_iload_n hx hb dL_law_1241 rfl (lv_at hl 0 rfl) ?_
    refine lv_iconst (v := 1) hx hb dL_law_1242 (by decide) ?_
    refine lv_iadd hx hb dL_law_1243 ?_
    refine xl_i (y := nI (i + 1)) (nI_add i 1) ?_
    refine va_sld hx hb hX hbl hbA hS (x_si (k := 1) (by decide) hi hL) dL_law_1244 ?_
    refine xl_i (y := xs (i + 1)) (congrArg xs (x_sc (k := 1) (by decide) hi hL)) ?_
    refine xl_i (y := 3) eq1 ?_
    refine lv_aload_n hx hb dL_law_1245 rfl (lv_at hl 3 rfl) ?_
    refine lv_iload_n hx hb dL_law_1246 rfl (lv_at hl 0 rfl) ?_
    refine lv_iconst (v := 2) hx hb dL_law_1247 (by decide) ?_
    refine lv_iadd hx hb dL_law_1248 ?_
    refine xl_i (y := nI (i + 2)) (nI_add i 2) ?_
    refine va_sld hx hb hX hbl hbA hS (x_si (k := 2) (by decide) hi hL) dL_law_1249 ?_
    refine xl_i (y := xs (i + 2)) (congrArg xs (x_sc (k := 2) (by decide) hi hL)) ?_
    refine lv_aload_n hx hb dL_law_1250 rfl (lv_at hl 3 rfl) ?_
    refine lv_iload_n hx hb dL_law_1251 rfl (lv_at hl 0 rfl) ?_
    refine lv_iconst (v := 3) hx hb dL_law_1252 (by decide) ?_
    refine lv_iadd hx hb dL_law_1253 ?_
    refine xl_i (y := nI (i + 3)) (nI_add i 3) ?_
    refine va_sld hx hb hX hbl hbA hS (x_si (k := 3) (by decide) hi hL) dL_law_1254 ?_
    refine xl_i (y := xs (i + 3)) (congrArg xs (x_sc (k := 3) (by decide) hi hL)) ?_
    refine lv_i2l (v := (xs (i + 3)).toInt64) hx hb dL_law_1255 rfl ?_
    refine lv_bipush (v := 32) hx hb dL_law_1256 (by decide) ?_
    refine lv_lshl hx hb dL_law_1258 rfl ?_
    refine lv_topl (fun x_67 ex_67 => ?_)
    refine lv_aload_n hx hb dL_law_1259 rfl (lv_at hl 3 rfl) ?_
    refine lv_iload_n hx hb dL_law_1260 rfl (lv_at hl 0 rfl) ?_
    refine lv_iconst (v := 4) hx hb dL_law_1261 (by decide) ?_
    refine lv_iadd hx hb dL_law_1262 ?_
    refine xl_i (y := nI (i + 4)) (nI_add i 4) ?_
    refine va_sld hx hb hX hbl hbA hS (x_si (k := 4) (by decide) hi hL) dL_law_1263 ?_
    refine xl_i (y := xs (i + 4)) (congrArg xs (x_sc (k := 4) (by decide) hi hL)) ?_
    refine lv_i2l (v := (xs (i + 4)).toInt64) hx hb dL_law_1264 rfl ?_
    refine lv_ldc2 (v := 4294967295) hx hb hown (hu _ uw1261) dL_law_1265 ?_
    refine lv_land hx hb dL_law_1268 ?_
    refine lv_topl (fun x_68 ex_68 => ?_)
    refine lv_lor hx hb dL_law_1269 ?_
    refine lv_topl (fun x_69 ex_69 => ?_)
    refine xc_VlT (wr := [(h0, .inr (8, [.ref qh, .ref qk, .ref qd, .int b0, .ref qa, .ref qm, .ref qs, .ref qp, .ref ql, .ref qt, .ref qz, .ref qf])), (qz, .inl (cS, 4, .inr (.inr (.inr (.inr (xSh s0 s1 s2 s3)))))), (s0, .inr (4, [.int bt0, .int (nI (sz0)), .ref sn0])), (s1, .inr (4, [.int bt1, .int (nI (sz1)), .ref sn1])), (s2, .inr (4, [.int bt2, .int (nI (sz2)), .ref sn2])), (s3, .inr (4, [.int bt3, .int (nI (sz3)), .ref sn3])), (sn0, .inl (cJ, 40, .inr (.inl nu0))), (sn1, .inl (cJ, 40, .inr (.inl nu1))), (sn2, .inl (cJ, 40, .inr (.inl nu2))), (sn3, .inl (cJ, 40, .inr (.inl nv_64))), (qf, .inl (cI, 7, .inl f2_65))]) hF (c_X9_write_3 l D cI cJ cZ cS ta sa sv H.size g0 m_ys m_yk m_yo m_yt b0 m_yfa m_yfe m_mL m_mS m_mM m_yro m_yhe m_ygr m_mF m_mC m_mY m_yta z m_mf m_mt m_mv m_mw m_ywa m_ybi m_ysi m_ynu m_ymo m_bi m_sq m_nb m_mq (xs (i + 2)) x_69 sz3 r_z3 hsz3 m_hsq) kv_L_165 ⟨rfl, rfl, Nat.le_of_ble_eq_true rfl, Nat.le_of_ble_eq_true rfl⟩ ⟨Nat.le_of_ble_eq_true rfl, Nat.le_of_ble_eq_true rfl⟩ hK hN hZ hP hD hS hA [0, 2, 3, 4, 1] [5, 6, 7, 8, 9, 10, 11, 12, 13, 14, 15] rfl rfl rfl rfl (by decide) 0 rfl rfl rfl rfl hl.1 rfl (Nat.le_of_ble_eq_true rfl) dL_law_1270 (fun r_70 u_r_70 H locs hw_r_70 hP hD hS => ?_)
    obtain ⟨nb2_71, mq2_72⟩ := u_r_70
    try dsimp only at hw_r_70
    obtain ⟨hw_r_70, i_73, i_74⟩ := hw_r_70
    have hP : va_P D vwCl ([(h0, .inr (8, [.ref qh, .ref qk, .ref qd, .int b0, .ref qa, .ref qm, .ref qs, .ref qp, .ref ql, .ref qt, .ref qz, .ref qf])), (qz, .inl (cS, 4, .inr (.inr (.inr (.inr (xSh s0 s1 s2 s3)))))), (s0, .inr (4, [.int bt0, .int (nI (sz0)), .ref sn0])), (s1, .inr (4, [.int bt1, .int (nI (sz1)), .ref sn1])), (s2, .inr (4, [.int bt2, .int (nI (sz2)), .ref sn2])), (s3, .inr (4, [.int bt3, .int (nI (sz3)), .ref sn3])), (sn0, .inl (cJ, 40, .inr (.inl nu0))), (sn1, .inl (cJ, 40, .inr (.inl nu1))), (sn2, .inl (cJ, 40, .inr (.inl nu2))), (sn3, .inl (cJ, 40, .inr (.inl nv_64))), (qf, .inl (cI, 7, .inl f2_65)), (g0, .inr (9, [.ref m_ys, .ref m_yk, .ref m_yo, .ref m_yt, .int b0, .ref m_yfa, .ref m_yfe, .int m_mL, .int m_mS, .int m_mM, .ref m_yro, .ref m_yhe, .ref m_ygr, .int m_mF, .int m_mC, .int m_mY, .ref m_yta, .int (nI (z)), .int (nI (m_mf)), .int (nI (m_mt)), .int m_mv, .int m_mw, .ref m_ywa, .ref m_ybi, .ref m_ysi, .ref m_ynu, .ref m_ymo])), (m_ybi, .inl (cI, 4, .inl m_bi)), (m_ysi, .inl (cI, 4, .inl m_sq)), (m_ynu, .inl (cJ, 160, .inr (.inl nb2_71))), (m_yt, .inl (cI, 7, .inl mq2_72))] ++ tl) H := hP
    have hD : va_D A ([(h0, .inr (8, [.ref qh, .ref qk, .ref qd, .int b0, .ref qa, .ref qm, .ref qs, .ref qp, .ref ql, .ref qt, .ref qz, .ref qf])), (qz, .inl (cS, 4, .inr (.inr (.inr (.inr (xSh s0 s1 s2 s3)))))), (s0, .inr (4, [.int bt0, .int (nI (sz0)), .ref sn0])), (s1, .inr (4, [.int bt1, .int (nI (sz1)), .ref sn1])), (s2, .inr (4, [.int bt2, .int (nI (sz2)), .ref sn2])), (s3, .inr (4, [.int bt3, .int (nI (sz3)), .ref sn3])), (sn0, .inl (cJ, 40, .inr (.inl nu0))), (sn1, .inl (cJ, 40, .inr (.inl nu1))), (sn2, .inl (cJ, 40, .inr (.inl nu2))), (sn3, .inl (cJ, 40, .inr (.inl nv_64))), (qf, .inl (cI, 7, .inl f2_65)), (g0, .inr (9, [.ref m_ys, .ref m_yk, .ref m_yo, .ref m_yt, .int b0, .ref m_yfa, .ref m_yfe, .int m_mL, .int m_mS, .int m_mM, .ref m_yro, .ref m_yhe, .ref m_ygr, .int m_mF, .int m_mC, .int m_mY, .ref m_yta, .int (nI (z)), .int (nI (m_mf)), .int (nI (m_mt)), .int m_mv, .int m_mw, .ref m_ywa, .ref m_ybi, .ref m_ysi, .ref m_ynu, .ref m_ymo])), (m_ybi, .inl (cI, 4, .inl m_bi)), (m_ysi, .inl (cI, 4, .inl m_sq)), (m_ynu, .inl (cJ, 160, .inr (.inl nb2_71))), (m_yt, .inl (cI, 7, .inl mq2_72))] ++ tl) := hD
    subst hw_r_70
    refine W.lcmp hx hb dL_law_1273 ?_
    refine xl_i (y := 0) (xq_eq (sp_wreq (by omega) r_b3 r_n3)) ?_
    refine lv_if_eq (tgt := 1483) hx hb dL_law_1274 (by decide) (fun c_75 => ?_) (fun c_75 => absurd (by decide) c_75)
    exact kkx _ _ _ nu0 nu1 nu2 nv_64 f2_65 mq2_72 nb2_71 (xt_P hP [0, 1, 2, 3, 4, 5, 6, 7, 8, 9, 10, 11, 15, 12, 13, 14] rfl) (xt_D hD [0, 1, 2, 3, 4, 5, 6, 7, 8, 9, 10, 11, 15, 12, 13, 14] (by decide +kernel) rfl) (fun j hj => (i_74 (0 + j) (by omega)).trans (r_n0 j hj)) (fun j hj => (i_74 (40 + j) (by omega)).trans (r_n1 j hj)) (fun j hj => (i_74 (80 + j) (by omega)).trans (r_n2 j hj)) (fun j hj => by rw [i_73 j hj, r_n3 j hj, r_b3, i_66 j]) hS hl
set_option maxHeartbeats 4000000 in
set_option maxRecDepth 100000 in
theorem law_36 {p : Program} {e : Env} {s : State} {m : MethodId} {below : List Frame} {meth : Method} {c : Code} (l : Launch) (D : va_G) (cI cJ cZ cS : ClassId) (ta : Nat) (sa sv : Nat → Nat) {b L : Nat} {xs : Nat → Int32} {A : Nat → Prop} (hL : L ≤ 3072) (hF : CallFix p m c cL_law 4 s #[Value.ref b] (Cond.initialized RX8 :: wsU) RL) (hr : meth.sig.returnType = ret) (hlk : meth.locks = false) (hK : va_K D vwCl (xT cI cJ cZ cS) s) (hN : XN sa s) (hX : va_X b L xs s s.heap) (hbl : b < s.heap.size) (hA : ∀ q : Nat, s.heap.size ≤ q → A q) (hbA : ¬ A b) (hAs : ∀ q, A q → s.heap.size ≤ q) (hZ : ST ta sa sv A s s.heap) (h0 g0 i : Nat) (hi : i + 6 ≤ L) (qh : Nat) (qk : Nat) (qd : Nat) (b0 : Int32) (qa : Nat) (qm : Nat) (qs : Nat) (qp : Nat) (ql : Nat) (qt : Nat) (qz : Nat) (qf : Nat) (s0 : Nat) (s1 : Nat) (s2 : Nat) (s3 : Nat) (bt0 : Int32) (sz0 : Nat) (sn0 : Nat) (bt1 : Int32) (sz1 : Nat) (sn1 : Nat) (bt2 : Int32) (sz2 : Nat) (sn2 : Nat) (bt3 : Int32) (sz3 : Nat) (sn3 : Nat) (nu0 : Nat → Int64) (nu1 : Nat → Int64) (nu2 : Nat → Int64) (nu3 : Nat → Int64) (ff : Nat → Int32) (m_ys : Nat) (m_yk : Nat) (m_yo : Nat) (m_yt : Nat) (m_yfa : Nat) (m_yfe : Nat) (m_mL : Int32) (m_mS : Int32) (m_mM : Int32) (m_yro : Nat) (m_yhe : Nat) (m_ygr : Nat) (m_mF : Int32) (m_mC : Int32) (m_mY : Int32) (m_yta : Nat) (z : Nat) (m_mf : Nat) (m_mt : Nat) (m_mv : Int32) (m_mw : Int32) (m_ywa : Nat) (m_ybi : Nat) (m_ysi : Nat) (m_ynu : Nat) (m_ymo : Nat) (m_mq : Nat → Int32) (m_bi : Nat → Int32) (m_sq : Nat → Int32) (m_nb : Nat → Int64) (m_mv9 : Nat → Int64) {tl : va_W} {H : Heap} {locs : List Loc} {ls : Array Slot} (hP : va_P D vwCl ([(h0, .inr (8, [.ref qh, .ref qk, .ref qd, .int b0, .ref qa, .ref qm, .ref qs, .ref qp, .ref ql, .ref qt, .ref qz, .ref qf])), (qz, .inl (cS, 4, .inr (.inr (.inr (.inr (xSh s0 s1 s2 s3)))))), (s0, .inr (4, [.int bt0, .int (nI (sz0)), .ref sn0])), (s1, .inr (4, [.int bt1, .int (nI (sz1)), .ref sn1])), (s2, .inr (4, [.int bt2, .int (nI (sz2)), .ref sn2])), (s3, .inr (4, [.int bt3, .int (nI (sz3)), .ref sn3])), (sn0, .inl (cJ, 40, .inr (.inl nu0))), (sn1, .inl (cJ, 40, .inr (.inl nu1))), (sn2, .inl (cJ, 40, .inr (.inl nu2))), (sn3, .inl (cJ, 40, .inr (.inl nu3))), (qf, .inl (cI, 7, .inl ff)), (g0, .inr (9, [.ref m_ys, .ref m_yk, .ref m_yo, .ref m_yt, .int b0, .ref m_yfa, .ref m_yfe, .int m_mL, .int m_mS, .int m_mM, .ref m_yro, .ref m_yhe, .ref m_ygr, .int m_mF, .int m_mC, .int m_mY, .ref m_yta, .int (nI (z)), .int (nI (m_mf)), .int (nI (m_mt)), .int m_mv, .int m_mw, .ref m_ywa, .ref m_ybi, .ref m_ysi, .ref m_ynu, .ref m_ymo])), (m_yt, .inl (cI, 7, .inl m_mq)), (m_ybi, .inl (cI, 4, .inl m_bi)), (m_ysi, .inl (cI, 4, .inl m_sq)), (m_ynu, .inl (cJ, 160, .inr (.inl m_nb))), (m_ymo, .inl (cJ, 40, .inr (.inl m_mv9)))] ++ tl) H) (hD : va_D A ([(h0, .inr (8, [.ref qh, .ref qk, .ref qd, .int b0, .ref qa, .ref qm, .ref qs, .ref qp, .ref ql, .ref qt, .ref qz, .ref qf])), (qz, .inl (cS, 4, .inr (.inr (.inr (.inr (xSh s0 s1 s2 s3)))))), (s0, .inr (4, [.int bt0, .int (nI (sz0)), .ref sn0])), (s1, .inr (4, [.int bt1, .int (nI (sz1)), .ref sn1])), (s2, .inr (4, [.int bt2, .int (nI (sz2)), .ref sn2])), (s3, .inr (4, [.int bt3, .int (nI (sz3)), .ref sn3])), (sn0, .inl (cJ, 40, .inr (.inl nu0))), (sn1, .inl (cJ, 40, .inr (.inl nu1))), (sn2, .inl (cJ, 40, .inr (.inl nu2))), (sn3, .inl (cJ, 40, .inr (.inl nu3))), (qf, .inl (cI, 7, .inl ff)), (g0, .inr (9, [.ref m_ys, .ref m_yk, .ref m_yo, .ref m_yt, .int b0, .ref m_yfa, .ref m_yfe, .int m_mL, .int m_mS, .int m_mM, .ref m_yro, .ref m_yhe, .ref m_ygr, .int m_mF, .int m_mC, .int m_mY, .ref m_yta, .int (nI (z)), .int (nI (m_mf)), .int (nI (m_mt)), .int m_mv, .int m_mw, .ref m_ywa, .ref m_ybi, .ref m_ysi, .ref m_ynu, .ref m_ymo])), (m_yt, .inl (cI, 7, .inl m_mq)), (m_ybi, .inl (cI, 4, .inl m_bi)), (m_ysi, .inl (cI, 4, .inl m_sq)), (m_ynu, .inl (cJ, 160, .inr (.inl m_nb))), (m_ymo, .inl (cJ, 40, .inr (.inl m_mv9)))] ++ tl)) (hz : z ≤ 120) (hsz0 : sz0 ≤ 40) (hsz1 : sz1 ≤ 40) (hsz2 : sz2 ≤ 40) (hsz3 : sz3 ≤ 40) (r_b0 : m_bi 0 = bt0) (r_z0 : m_sq 0 = nI sz0) (r_n0 : ∀ j, j < 40 → m_nb (0 + j) = nu0 j) (r_b1 : m_bi 1 = bt1) (r_z1 : m_sq 1 = nI sz1) (r_n1 : ∀ j, j < 40 → m_nb (40 + j) = nu1 j) (r_b2 : m_bi 2 = bt2) (r_z2 : m_sq 2 = nI sz2) (r_n2 : ∀ j, j < 40 → m_nb (80 + j) = nu2 j) (r_b3 : m_bi 3 = bt3) (r_z3 : m_sq 3 = nI sz3) (r_n3 : ∀ j, j < 40 → m_nb (120 + j) = nu3 j) (m_hsq : BA 4 41 m_sq) (hS : va_S A s.heap H locs) (hl : lv_has ls 4 [(3, .int (nI i)), (2, .ref g0), (1, .ref h0), (0, .ref b)]) (kkx : ∀ (H : Heap) (locs : List Loc) (ls : Array Slot) (nu0_n : Nat → Int64) (nu1_n : Nat → Int64) (nu2_n : Nat → Int64) (nu3_n : Nat → Int64) (ff_n : Nat → Int32) (m_mq_n : Nat → Int32) (m_nb_n : Nat → Int64) (m_mv9_n : Nat → Int64), va_P D vwCl ([(h0, .inr (8, [.ref qh, .ref qk, .ref qd, .int b0, .ref qa, .ref qm, .ref qs, .ref qp, .ref ql, .ref qt, .ref qz, .ref qf])), (qz, .inl (cS, 4, .inr (.inr (.inr (.inr (xSh s0 s1 s2 s3)))))), (s0, .inr (4, [.int bt0, .int (nI (sz0)), .ref sn0])), (s1, .inr (4, [.int bt1, .int (nI (sz1)), .ref sn1])), (s2, .inr (4, [.int bt2, .int (nI (sz2)), .ref sn2])), (s3, .inr (4, [.int bt3, .int (nI (sz3)), .ref sn3])), (sn0, .inl (cJ, 40, .inr (.inl nu0_n))), (sn1, .inl (cJ, 40, .inr (.inl nu1_n))), (sn2, .inl (cJ, 40, .inr (.inl nu2_n))), (sn3, .inl (cJ, 40, .inr (.inl nu3_n))), (qf, .inl (cI, 7, .inl ff_n)), (g0, .inr (9, [.ref m_ys, .ref m_yk, .ref m_yo, .ref m_yt, .int b0, .ref m_yfa, .ref m_yfe, .int m_mL, .int m_mS, .int m_mM, .ref m_yro, .ref m_yhe, .ref m_ygr, .int m_mF, .int m_mC, .int m_mY, .ref m_yta, .int (nI (z)), .int (nI (m_mf)), .int (nI (m_mt)), .int m_mv, .int m_mw, .ref m_ywa, .ref m_ybi, .ref m_ysi, .ref m_ynu, .ref m_ymo])), (m_yt, .inl (cI, 7, .inl m_mq_n)), (m_ybi, .inl (cI, 4, .inl m_bi)), (m_ysi, .inl (cI, 4, .inl m_sq)), (m_ynu, .inl (cJ, 160, .inr (.inl m_nb_n))), (m_ymo, .inl (cJ, 40, .inr (.inl m_mv9_n)))] ++ tl) H → va_D A ([(h0, .inr (8, [.ref qh, .ref qk, .ref qd, .int b0, .ref qa, .ref qm, .ref qs, .ref qp, .ref ql, .ref qt, .ref qz, .ref qf])), (qz, .inl (cS, 4, .inr (.inr (.inr (.inr (xSh s0 s1 s2 s3)))))), (s0, .inr (4, [.int bt0, .int (nI (sz0)), .ref sn0])), (s1, .inr (4, [.int bt1, .int (nI (sz1)), .ref sn1])), (s2, .inr (4, [.int bt2, .int (nI (sz2)), .ref sn2])), (s3, .inr (4, [.int bt3, .int (nI (sz3)), .ref sn3])), (sn0, .inl (cJ, 40, .inr (.inl nu0_n))), (sn1, .inl (cJ, 40, .inr (.inl nu1_n))), (sn2, .inl (cJ, 40, .inr (.inl nu2_n))), (sn3, .inl (cJ, 40, .inr (.inl nu3_n))), (qf, .inl (cI, 7, .inl ff_n)), (g0, .inr (9, [.ref m_ys, .ref m_yk, .ref m_yo, .ref m_yt, .int b0, .ref m_yfa, .ref m_yfe, .int m_mL, .int m_mS, .int m_mM, .ref m_yro, .ref m_yhe, .ref m_ygr, .int m_mF, .int m_mC, .int m_mY, .ref m_yta, .int (nI (z)), .int (nI (m_mf)), .int (nI (m_mt)), .int m_mv, .int m_mw, .ref m_ywa, .ref m_ybi, .ref m_ysi, .ref m_ynu, .ref m_ymo])), (m_yt, .inl (cI, 7, .inl m_mq_n)), (m_ybi, .inl (cI, 4, .inl m_bi)), (m_ysi, .inl (cI, 4, .inl m_sq)), (m_ynu, .inl (cJ, 160, .inr (.inl m_nb_n))), (m_ymo, .inl (cJ, 40, .inr (.inl m_mv9_n)))] ++ tl) → (∀ j, j < 40 → m_nb_n (0 + j) = nu0_n j) → (∀ j, j < 40 → m_nb_n (40 + j) = nu1_n j) → (∀ j, j < 40 → m_nb_n (80 + j) = nu2_n j) → (∀ j, j < 40 → m_nb_n (120 + j) = nu3_n j) → va_S A s.heap H locs → lv_has ls 4 [(3, .int (nI i)), (2, .ref g0), (1, .ref h0), (0, .ref b)] → W p l e room_1 s m #[Value.ref b] below meth c H locs 82 4273 (lw_Z below #[Value.ref b] s) (F0 m 1483 ls [])) : W p l e room_1 s m #[Value.ref b] below meth c H locs 82 4273 (lw_Z below #[Value.ref b] s) (F0 m 1279 ls []) := by
  have hx := hF.1
  have hb := hF.2.1
  have hml := hF.2.2.1
  have hown := hF.2.2.2.1
  have hu : ∀ w ∈ wsU, w.before _ s = true := fun w h => hF.2.2.2.2 w (List.mem_cons_of_mem _ h)
  rcases x_sh4 (xs (i + 1)) with oq1 | eq1 | eq1 | eq1 | eq1
  · skip
    refine lv_aload_n hx hb dL_law_1279 rfl (lv_at hl 2 rfl) ?_
    rcases x_sh4 (xs (i + 3)) with oq3 | eq3 | eq3 | eq3 | eq3
    · skip
      refine lv_aload_n hx hb dL_law_1280 rfl (lv_at hl 3 rfl) ?_
      refine lv_iload_n hx hb dL_law_1281 rfl (lv_at hl 0 rfl) ?_
      refine lv_iconst (v := 1) hx hb dL_law_1282 (by decide) ?_
      refine lv_iadd hx hb dL_law_1283 ?_
      refine xl_i (y := nI (i + 1)) (nI_add i 1) ?_
      refine va_sld hx hb hX hbl hbA hS (x_si (k := 1) (by decide) hi hL) dL_law_1284 ?_
      refine xl_i (y := xs (i + 1)) (congrArg xs (x_sc (k := 1) (by decide) hi hL)) ?_
      refine lv_aload_n hx hb dL_law_1285 rfl (lv_at hl 3 rfl) ?_
      refine lv_iload_n hx hb dL_law_1286 rfl (lv_at hl 0 rfl) ?_
      refine lv_iconst (v := 2) hx hb dL_law_1287 (by decide) ?_
      refine lv_iadd hx hb dL_law_1288 ?_
      refine xl_i (y := nI (i + 2)) (nI_add i 2) ?_
      refine va_sld hx hb hX hbl hbA hS (x_si (k := 2) (by decide) hi hL) dL_law_1289 ?_
      refine xl_i (y := xs (i + 2)) (congrArg xs (x_sc (k := 2) (by decide) hi hL)) ?_
      refine lv_aload_n hx hb dL_law_1290 rfl (lv_at hl 3 rfl) ?_
      refine lv_iload_n hx hb dL_law_1291 rfl (lv_at hl 0 rfl) ?_
      refine lv_iconst (v := 3) hx hb dL_law_1292 (by decide) ?_
      refine lv_iadd hx hb dL_law_1293 ?_
      refine xl_i (y := nI (i + 3)) (nI_add i 3) ?_
      refine va_sld hx hb hX hbl hbA hS (x_si (k := 3) (by decide) hi hL) dL_law_1294 ?_
      refine xl_i (y := xs (i + 3)) (congrArg xs (x_sc (k := 3) (by decide) hi hL)) ?_
      refine lv_aload_n hx hb dL_law_1295 rfl (lv_at hl 3 rfl) ?_
      refine lv_iload_n hx hb dL_law_1296 rfl (lv_at hl 0 rfl) ?_
      refine lv_iconst (v := 4) hx hb dL_law_1297 (by decide) ?_
      refine lv_iadd hx hb dL_law_1298 ?_
      refine xl_i (y := nI (i + 4)) (nI_add i 4) ?_
      refine va_sld hx hb hX hbl hbA hS (x_si (k := 4) (by decide) hi hL) dL_law_1299 ?_
      refine xl_i (y := xs (i + 4)) (congrArg xs (x_sc (k := 4) (by decide) hi hL)) ?_
      refine lv_aload_n hx hb dL_law_1300 rfl (lv_at hl 3 rfl) ?_
      refine lv_iload_n hx hb dL_law_1301 rfl (lv_at hl 0 rfl) ?_
      refine lv_iconst (v := 5) hx hb dL_law_1302 (by decide) ?_
      refine lv_iadd hx hb dL_law_1303 ?_
      refine xl_i (y := nI (i + 5)) (nI_add i 5) ?_
      refine va_sld hx hb hX hbl hbA hS (x_si (k := 5) (by decide) hi hL) dL_law_1304 ?_
      refine xl_i (y := xs (i + 5)) (congrArg xs (x_sc (k := 5) (by decide) hi hL)) ?_
      refine xc_ViT (wr := [(qz, .inl (cS, 4, .inr (.inr (.inr (.inr (xSh s0 s1 s2 s3)))))), (s0, .inr (4, [.int bt0, .int (nI (sz0)), .ref sn0])), (s1, .inr (4, [.int bt1, .int (nI (sz1)), .ref sn1])), (s2, .inr (4, [.int bt2, .int (nI (sz2)), .ref sn2])), (s3, .inr (4, [.int bt3, .int (nI (sz3)), .ref sn3])), (sn0, .inl (cJ, 40, .inr (.inl nu0))), (sn1, .inl (cJ, 40, .inr (.inl nu1))), (sn2, .inl (cJ, 40, .inr (.inl nu2))), (sn3, .inl (cJ, 40, .inr (.inl nu3))), (g0, .inr (9, [.ref m_ys, .ref m_yk, .ref m_yo, .ref m_yt, .int b0, .ref m_yfa, .ref m_yfe, .int m_mL, .int m_mS, .int m_mM, .ref m_yro, .ref m_yhe, .ref m_ygr, .int m_mF, .int m_mC, .int m_mY, .ref m_yta, .int (nI (z)), .int (nI (m_mf)), .int (nI (m_mt)), .int m_mv, .int m_mw, .ref m_ywa, .ref m_ybi, .ref m_ysi, .ref m_ynu, .ref m_ymo])), (m_yt, .inl (cI, 7, .inl m_mq)), (m_ybi, .inl (cI, 4, .inl m_bi)), (m_ysi, .inl (cI, 4, .inl m_sq)), (m_ynu, .inl (cJ, 160, .inr (.inl m_nb))), (m_ymo, .inl (cJ, 40, .inr (.inl m_mv9)))]) hF (c_X8_copy_o l D cI cJ cZ cS ta sa sv H.size h0 qh qk qd b0 qa qm qs qp ql qt qz qf ff (xs (i + 1)) (xs (i + 2)) (xs (i + 3)) (xs (i + 4)) (xs (i + 5)) oq1) kv_L_166 ⟨rfl, rfl, Nat.le_of_ble_eq_true rfl, Nat.le_of_ble_eq_true rfl⟩ ⟨Nat.le_of_ble_eq_true rfl, Nat.le_of_ble_eq_true rfl⟩ hK hN hZ hP hD hS hA [0, 10] [1, 2, 3, 4, 5, 6, 7, 8, 9, 11, 12, 13, 14, 15, 16] rfl rfl rfl rfl (by decide) 0 rfl rfl rfl rfl hl.1 rfl (Nat.le_of_ble_eq_true rfl) dL_law_1305 (fun r_1 u_r_1 H locs hw_r_1 hP hD hS => ?_)
      obtain ⟨f2_2, rfl⟩ : ∃ z, z = u_r_1 := ⟨_, rfl⟩
      try dsimp only at hw_r_1
      have hP : va_P D vwCl ([(qz, .inl (cS, 4, .inr (.inr (.inr (.inr (xSh s0 s1 s2 s3)))))), (s0, .inr (4, [.int bt0, .int (nI (sz0)), .ref sn0])), (s1, .inr (4, [.int bt1, .int (nI (sz1)), .ref sn1])), (s2, .inr (4, [.int bt2, .int (nI (sz2)), .ref sn2])), (s3, .inr (4, [.int bt3, .int (nI (sz3)), .ref sn3])), (sn0, .inl (cJ, 40, .inr (.inl nu0))), (sn1, .inl (cJ, 40, .inr (.inl nu1))), (sn2, .inl (cJ, 40, .inr (.inl nu2))), (sn3, .inl (cJ, 40, .inr (.inl nu3))), (g0, .inr (9, [.ref m_ys, .ref m_yk, .ref m_yo, .ref m_yt, .int b0, .ref m_yfa, .ref m_yfe, .int m_mL, .int m_mS, .int m_mM, .ref m_yro, .ref m_yhe, .ref m_ygr, .int m_mF, .int m_mC, .int m_mY, .ref m_yta, .int (nI (z)), .int (nI (m_mf)), .int (nI (m_mt)), .int m_mv, .int m_mw, .ref m_ywa, .ref m_ybi, .ref m_ysi, .ref m_ynu, .ref m_ymo])), (m_yt, .inl (cI, 7, .inl m_mq)), (m_ybi, .inl (cI, 4, .inl m_bi)), (m_ysi, .inl (cI, 4, .inl m_sq)), (m_ynu, .inl (cJ, 160, .inr (.inl m_nb))), (m_ymo, .inl (cJ, 40, .inr (.inl m_mv9))), (h0, .inr (8, [.ref qh, .ref qk, .ref qd, .int b0, .ref qa, .ref qm, .ref qs, .ref qp, .ref ql, .ref qt, .ref qz, .ref qf])), (qf, .inl (cI, 7, .inl f2_2))] ++ tl) H := hP
      have hD : va_D A ([(qz, .inl (cS, 4, .inr (.inr (.inr (.inr (xSh s0 s1 s2 s3)))))), (s0, .inr (4, [.int bt0, .int (nI (sz0)), .ref sn0])), (s1, .inr (4, [.int bt1, .int (nI (sz1)), .ref sn1])), (s2, .inr (4, [.int bt2, .int (nI (sz2)), .ref sn2])), (s3, .inr (4, [.int bt3, .int (nI (sz3)), .ref sn3])), (sn0, .inl (cJ, 40, .inr (.inl nu0))), (sn1, .inl (cJ, 40, .inr (.inl nu1))), (sn2, .inl (cJ, 40, .inr (.inl nu2))), (sn3, .inl (cJ, 40, .inr (.inl nu3))), (g0, .inr (9, [.ref m_ys, .ref m_yk, .ref m_yo, .ref m_yt, .int b0, .ref m_yfa, .ref m_yfe, .int m_mL, .int m_mS, .int m_mM, .ref m_yro, .ref m_yhe, .ref m_ygr, .int m_mF, .int m_mC, .int m_mY, .ref m_yta, .int (nI (z)), .int (nI (m_mf)), .int (nI (m_mt)), .int m_mv, .int m_mw, .ref m_ywa, .ref m_ybi, .ref m_ysi, .ref m_ynu, .ref m_ymo])), (m_yt, .inl (cI, 7, .inl m_mq)), (m_ybi, .inl (cI, 4, .inl m_bi)), (m_ysi, .inl (cI, 4, .inl m_sq)), (m_ynu, .inl (cJ, 160, .inr (.inl m_nb))), (m_ymo, .inl (cJ, 40, .inr (.inl m_mv9))), (h0, .inr (8, [.ref qh, .ref qk, .ref qd, .int b0, .ref qa, .ref qm, .ref qs, .ref qp, .ref ql, .ref qt, .ref qz, .ref qf])), (qf, .inl (cI, 7, .inl f2_2))] ++ tl) := hD
      subst hw_r_1
      refine lv_pop hx hb dL_law_1308 rfl ?_
      refine lv_aload_n hx hb dL_law_1309 rfl (lv_at hl 1 rfl) ?_
      refine lv_aload_n hx hb dL_law_1310 rfl (lv_at hl 3 rfl) ?_
      refine lv_iload_n hx hb dL_law_1311 rfl (lv_at hl 0 rfl) ?_
      refine lv_iconst (v := 1) hx hb dL_law_1312 (by decide) ?_
      refine lv_iadd hx hb dL_law_1313 ?_
      refine xl_i (y := nI (i + 1)) (nI_add i 1) ?_
      refine va_sld hx hb hX hbl hbA hS (x_si (k := 1) (by decide) hi hL) dL_law_1314 ?_
      refine xl_i (y := xs (i + 1)) (congrArg xs (x_sc (k := 1) (by decide) hi hL)) ?_
      refine lv_aload_n hx hb dL_law_1315 rfl (lv_at hl 3 rfl) ?_
      refine lv_iload_n hx hb dL_law_1316 rfl (lv_at hl 0 rfl) ?_
      refine lv_iconst (v := 2) hx hb dL_law_1317 (by decide) ?_
      refine lv_iadd hx hb dL_law_1318 ?_
      refine xl_i (y := nI (i + 2)) (nI_add i 2) ?_
      refine va_sld hx hb hX hbl hbA hS (x_si (k := 2) (by decide) hi hL) dL_law_1319 ?_
      refine xl_i (y := xs (i + 2)) (congrArg xs (x_sc (k := 2) (by decide) hi hL)) ?_
      refine lv_aload_n hx hb dL_law_1320 rfl (lv_at hl 3 rfl) ?_
      refine lv_iload_n hx hb dL_law_1321 rfl (lv_at hl 0 rfl) ?_
      refine lv_iconst (v := 3) hx hb dL_law_1322 (by decide) ?_
      refine lv_iadd hx hb dL_law_1323 ?_
      refine xl_i (y := nI (i + 3)) (nI_add i 3) ?_
      refine va_sld hx hb hX hbl hbA hS (x_si (k := 3) (by decide) hi hL) dL_law_1324 ?_
      refine xl_i (y := xs (i + 3)) (congrArg xs (x_sc (k := 3) (by decide) hi hL)) ?_
      refine lv_aload_n hx hb dL_law_1325 rfl (lv_at hl 3 rfl) ?_
      refine lv_iload_n hx hb dL_law_1326 rfl (lv_at hl 0 rfl) ?_
      refine lv_iconst (v := 4) hx hb dL_law_1327 (by decide) ?_
      refine lv_iadd hx hb dL_law_1328 ?_
      refine xl_i (y := nI (i + 4)) (nI_add i 4) ?_
      refine va_sld hx hb hX hbl hbA hS (x_si (k := 4) (by decide) hi hL) dL_law_1329 ?_
      refine xl_i (y := xs (i + 4)) (congrArg xs (x_sc (k := 4) (by decide) hi hL)) ?_
      refine lv_aload_n hx hb dL_law_1330 rfl (lv_at hl 3 rfl) ?_
      refine lv_iload_n hx hb dL_law_1331 rfl (lv_at hl 0 rfl) ?_
      refine lv_iconst (v := 5) hx hb dL_law_1332 (by decide) ?_
      refine lv_iadd hx hb dL_law_1333 ?_
      refine xl_i (y := nI (i + 5)) (nI_add i 5) ?_
      refine va_sld hx hb hX hbl hbA hS (x_si (k := 5) (by decide) hi hL) dL_law_1334 ?_
      refine xl_i (y := xs (i + 5)) (congrArg xs (x_sc (k := 5) (by decide) hi hL)) ?_
      refine xc_ViT (wr := [(qz, .inl (cS, 4, .inr (.inr (.inr (.inr (xSh s0 s1 s2 s3)))))), (s0, .inr (4, [.int bt0, .int (nI (sz0)), .ref sn0])), (s1, .inr (4, [.int bt1, .int (nI (sz1)), .ref sn1])), (s2, .inr (4, [.int bt2, .int (nI (sz2)), .ref sn2])), (s3, .inr (4, [.int bt3, .int (nI (sz3)), .ref sn3])), (sn0, .inl (cJ, 40, .inr (.inl nu0))), (sn1, .inl (cJ, 40, .inr (.inl nu1))), (sn2, .inl (cJ, 40, .inr (.inl nu2))), (sn3, .inl (cJ, 40, .inr (.inl nu3))), (m_ybi, .inl (cI, 4, .inl m_bi)), (m_ysi, .inl (cI, 4, .inl m_sq)), (m_ynu, .inl (cJ, 160, .inr (.inl m_nb))), (m_ymo, .inl (cJ, 40, .inr (.inl m_mv9))), (h0, .inr (8, [.ref qh, .ref qk, .ref qd, .int b0, .ref qa, .ref qm, .ref qs, .ref qp, .ref ql, .ref qt, .ref qz, .ref qf])), (qf, .inl (cI, 7, .inl f2_2))]) hF (c_X9_copy_o l D cI cJ cZ cS ta sa sv H.size g0 m_ys m_yk m_yo m_yt b0 m_yfa m_yfe m_mL m_mS m_mM m_yro m_yhe m_ygr m_mF m_mC m_mY m_yta z m_mf m_mt m_mv m_mw m_ywa m_ybi m_ysi m_ynu m_ymo m_mq (xs (i + 1)) (xs (i + 2)) (xs (i + 3)) (xs (i + 4)) (xs (i + 5)) oq1) kv_L_170 ⟨rfl, rfl, Nat.le_of_ble_eq_true rfl, Nat.le_of_ble_eq_true rfl⟩ ⟨Nat.le_of_ble_eq_true rfl, Nat.le_of_ble_eq_true rfl⟩ hK hN hZ hP hD hS hA [9, 10] [0, 1, 2, 3, 4, 5, 6, 7, 8, 11, 12, 13, 14, 15, 16] rfl rfl rfl rfl (by decide) 0 rfl rfl rfl rfl hl.1 rfl (Nat.le_of_ble_eq_true rfl) dL_law_1335 (fun r_3 u_r_3 H locs hw_r_3 hP hD hS => ?_)
      obtain ⟨mq2_4, rfl⟩ : ∃ z, z = u_r_3 := ⟨_, rfl⟩
      try dsimp only at hw_r_3
      have hP : va_P D vwCl ([(qz, .inl (cS, 4, .inr (.inr (.inr (.inr (xSh s0 s1 s2 s3)))))), (s0, .inr (4, [.int bt0, .int (nI (sz0)), .ref sn0])), (s1, .inr (4, [.int bt1, .int (nI (sz1)), .ref sn1])), (s2, .inr (4, [.int bt2, .int (nI (sz2)), .ref sn2])), (s3, .inr (4, [.int bt3, .int (nI (sz3)), .ref sn3])), (sn0, .inl (cJ, 40, .inr (.inl nu0))), (sn1, .inl (cJ, 40, .inr (.inl nu1))), (sn2, .inl (cJ, 40, .inr (.inl nu2))), (sn3, .inl (cJ, 40, .inr (.inl nu3))), (m_ybi, .inl (cI, 4, .inl m_bi)), (m_ysi, .inl (cI, 4, .inl m_sq)), (m_ynu, .inl (cJ, 160, .inr (.inl m_nb))), (m_ymo, .inl (cJ, 40, .inr (.inl m_mv9))), (h0, .inr (8, [.ref qh, .ref qk, .ref qd, .int b0, .ref qa, .ref qm, .ref qs, .ref qp, .ref ql, .ref qt, .ref qz, .ref qf])), (qf, .inl (cI, 7, .inl f2_2)), (g0, .inr (9, [.ref m_ys, .ref m_yk, .ref m_yo, .ref m_yt, .int b0, .ref m_yfa, .ref m_yfe, .int m_mL, .int m_mS, .int m_mM, .ref m_yro, .ref m_yhe, .ref m_ygr, .int m_mF, .int m_mC, .int m_mY, .ref m_yta, .int (nI (z)), .int (nI (m_mf)), .int (nI (m_mt)), .int m_mv, .int m_mw, .ref m_ywa, .ref m_ybi, .ref m_ysi, .ref m_ynu, .ref m_ymo])), (m_yt, .inl (cI, 7, .inl mq2_4))] ++ tl) H := hP
      have hD : va_D A ([(qz, .inl (cS, 4, .inr (.inr (.inr (.inr (xSh s0 s1 s2 s3)))))), (s0, .inr (4, [.int bt0, .int (nI (sz0)), .ref sn0])), (s1, .inr (4, [.int bt1, .int (nI (sz1)), .ref sn1])), (s2, .inr (4, [.int bt2, .int (nI (sz2)), .ref sn2])), (s3, .inr (4, [.int bt3, .int (nI (sz3)), .ref sn3])), (sn0, .inl (cJ, 40, .inr (.inl nu0))), (sn1, .inl (cJ, 40, .inr (.inl nu1))), (sn2, .inl (cJ, 40, .inr (.inl nu2))), (sn3, .inl (cJ, 40, .inr (.inl nu3))), (m_ybi, .inl (cI, 4, .inl m_bi)), (m_ysi, .inl (cI, 4, .inl m_sq)), (m_ynu, .inl (cJ, 160, .inr (.inl m_nb))), (m_ymo, .inl (cJ, 40, .inr (.inl m_mv9))), (h0, .inr (8, [.ref qh, .ref qk, .ref qd, .int b0, .ref qa, .ref qm, .ref qs, .ref qp, .ref ql, .ref qt, .ref qz, .ref qf])), (qf, .inl (cI, 7, .inl f2_2)), (g0, .inr (9, [.ref m_ys, .ref m_yk, .ref m_yo, .ref m_yt, .int b0, .ref m_yfa, .ref m_yfe, .int m_mL, .int m_mS, .int m_mM, .ref m_yro, .ref m_yhe, .ref m_ygr, .int m_mF, .int m_mC, .int m_mY, .ref m_yta, .int (nI (z)), .int (nI (m_mf)), .int (nI (m_mt)), .int m_mv, .int m_mw, .ref m_ywa, .ref m_ybi, .ref m_ysi, .ref m_ynu, .ref m_ymo])), (m_yt, .inl (cI, 7, .inl mq2_4))] ++ tl) := hD
      subst hw_r_3
      refine lv_pop hx hb dL_law_1338 rfl ?_
      refine lv_goto (tgt := 1483) hx hb dL_law_1339 (by decide) ?_
      exact kkx _ _ _ nu0 nu1 nu2 nu3 f2_2 mq2_4 m_nb m_mv9 (xt_P hP [13, 0, 1, 2, 3, 4, 5, 6, 7, 8, 14, 15, 16, 9, 10, 11, 12] rfl) (xt_D hD [13, 0, 1, 2, 3, 4, 5, 6, 7, 8, 14, 15, 16, 9, 10, 11, 12] (by decide +kernel) rfl) r_n0 r_n1 r_n2 r_n3 hS hl
    · skip
      refine lv_aload_n hx hb dL_law_1280 rfl (lv_at hl 3 rfl) ?_
      refine lv_iload_n hx hb dL_law_1281 rfl (lv_at hl 0 rfl) ?_
      refine lv_iconst (v := 1) hx hb dL_law_1282 (by decide) ?_
      refine lv_iadd hx hb dL_law_1283 ?_
      refine xl_i (y := nI (i + 1)) (nI_add i 1) ?_
      refine va_sld hx hb hX hbl hbA hS (x_si (k := 1) (by decide) hi hL) dL_law_1284 ?_
      refine xl_i (y := xs (i + 1)) (congrArg xs (x_sc (k := 1) (by decide) hi hL)) ?_
      refine lv_aload_n hx hb dL_law_1285 rfl (lv_at hl 3 rfl) ?_
      refine lv_iload_n hx hb dL_law_1286 rfl (lv_at hl 0 rfl) ?_
      refine lv_iconst (v := 2) hx hb dL_law_1287 (by decide) ?_
      refine lv_iadd hx hb dL_law_1288 ?_
      refine xl_i (y := nI (i + 2)) (nI_add i 2) ?_
      refine va_sld hx hb hX hbl hbA hS (x_si (k := 2) (by decide) hi hL) dL_law_1289 ?_
      refine xl_i (y := xs (i + 2)) (congrArg xs (x_sc (k := 2) (by decide) hi hL)) ?_
      refine lv_aload_n hx hb dL_law_1290 rfl (lv_at hl 3 rfl) ?_
      refine lv_iload_n hx hb dL_law_1291 rfl (lv_at hl 0 rfl) ?_
      refine lv_iconst (v := 3) hx hb dL_law_1292 (by decide) ?_
      refine lv_iadd hx hb dL_law_1293 ?_
      refine xl_i (y := nI (i + 3)) (nI_add i 3) ?_
      refine va_sld hx hb hX hbl hbA hS (x_si (k := 3) (by decide) hi hL) dL_law_1294 ?_
      refine xl_i (y := xs (i + 3)) (congrArg xs (x_sc (k := 3) (by decide) hi hL)) ?_
      refine xl_i (y := 0) eq3 ?_
      refine lv_aload_n hx hb dL_law_1295 rfl (lv_at hl 3 rfl) ?_
      refine lv_iload_n hx hb dL_law_1296 rfl (lv_at hl 0 rfl) ?_
      refine lv_iconst (v := 4) hx hb dL_law_1297 (by decide) ?_
      refine lv_iadd hx hb dL_law_1298 ?_
      refine xl_i (y := nI (i + 4)) (nI_add i 4) ?_
      refine va_sld hx hb hX hbl hbA hS (x_si (k := 4) (by decide) hi hL) dL_law_1299 ?_
      refine xl_i (y := xs (i + 4)) (congrArg xs (x_sc (k := 4) (by decide) hi hL)) ?_
      refine lv_aload_n hx hb dL_law_1300 rfl (lv_at hl 3 rfl) ?_
      refine lv_iload_n hx hb dL_law_1301 rfl (lv_at hl 0 rfl) ?_
      refine lv_iconst (v := 5) hx hb dL_law_1302 (by decide) ?_
      refine lv_iadd hx hb dL_law_1303 ?_
      refine xl_i (y := nI (i + 5)) (nI_add i 5) ?_
      refine va_sld hx hb hX hbl hbA hS (x_si (k := 5) (by decide) hi hL) dL_law_1304 ?_
      refine xl_i (y := xs (i + 5)) (congrArg xs (x_sc (k := 5) (by decide) hi hL)) ?_
      refine xc_ViT (wr := [(qz, .inl (cS, 4, .inr (.inr (.inr (.inr (xSh s0 s1 s2 s3)))))), (s0, .inr (4, [.int bt0, .int (nI (sz0)), .ref sn0])), (s1, .inr (4, [.int bt1, .int (nI (sz1)), .ref sn1])), (s2, .inr (4, [.int bt2, .int (nI (sz2)), .ref sn2])), (s3, .inr (4, [.int bt3, .int (nI (sz3)), .ref sn3])), (sn0, .inl (cJ, 40, .inr (.inl nu0))), (sn1, .inl (cJ, 40, .inr (.inl nu1))), (sn2, .inl (cJ, 40, .inr (.inl nu2))), (sn3, .inl (cJ, 40, .inr (.inl nu3))), (g0, .inr (9, [.ref m_ys, .ref m_yk, .ref m_yo, .ref m_yt, .int b0, .ref m_yfa, .ref m_yfe, .int m_mL, .int m_mS, .int m_mM, .ref m_yro, .ref m_yhe, .ref m_ygr, .int m_mF, .int m_mC, .int m_mY, .ref m_yta, .int (nI (z)), .int (nI (m_mf)), .int (nI (m_mt)), .int m_mv, .int m_mw, .ref m_ywa, .ref m_ybi, .ref m_ysi, .ref m_ynu, .ref m_ymo])), (m_yt, .inl (cI, 7, .inl m_mq)), (m_ybi, .inl (cI, 4, .inl m_bi)), (m_ysi, .inl (cI, 4, .inl m_sq)), (m_ynu, .inl (cJ, 160, .inr (.inl m_nb))), (m_ymo, .inl (cJ, 40, .inr (.inl m_mv9)))]) hF (c_X8_copy_o l D cI cJ cZ cS ta sa sv H.size h0 qh qk qd b0 qa qm qs qp ql qt qz qf ff (xs (i + 1)) (xs (i + 2)) 0 (xs (i + 4)) (xs (i + 5)) oq1) kv_L_166 ⟨rfl, rfl, Nat.le_of_ble_eq_true rfl, Nat.le_of_ble_eq_true rfl⟩ ⟨Nat.le_of_ble_eq_true rfl, Nat.le_of_ble_eq_true rfl⟩ hK hN hZ hP hD hS hA [0, 10] [1, 2, 3, 4, 5, 6, 7, 8, 9, 11, 12, 13, 14, 15, 16] rfl rfl rfl rfl (by decide) 0 rfl rfl rfl rfl hl.1 rfl (Nat.le_of_ble_eq_true rfl) dL_law_1305 (fun r_5 u_r_5 H locs hw_r_5 hP hD hS => ?_)
      obtain ⟨f2_6, rfl⟩ : ∃ z, z = u_r_5 := ⟨_, rfl⟩
      try dsimp only at hw_r_5
      have hP : va_P D vwCl ([(qz, .inl (cS, 4, .inr (.inr (.inr (.inr (xSh s0 s1 s2 s3)))))), (s0, .inr (4, [.int bt0, .int (nI (sz0)), .ref sn0])), (s1, .inr (4, [.int bt1, .int (nI (sz1)), .ref sn1])), (s2, .inr (4, [.int bt2, .int (nI (sz2)), .ref sn2])), (s3, .inr (4, [.int bt3, .int (nI (sz3)), .ref sn3])), (sn0, .inl (cJ, 40, .inr (.inl nu0))), (sn1, .inl (cJ, 40, .inr (.inl nu1))), (sn2, .inl (cJ, 40, .inr (.inl nu2))), (sn3, .inl (cJ, 40, .inr (.inl nu3))), (g0, .inr (9, [.ref m_ys, .ref m_yk, .ref m_yo, .ref m_yt, .int b0, .ref m_yfa, .ref m_yfe, .int m_mL, .int m_mS, .int m_mM, .ref m_yro, .ref m_yhe, .ref m_ygr, .int m_mF, .int m_mC, .int m_mY, .ref m_yta, .int (nI (z)), .int (nI (m_mf)), .int (nI (m_mt)), .int m_mv, .int m_mw, .ref m_ywa, .ref m_ybi, .ref m_ysi, .ref m_ynu, .ref m_ymo])), (m_yt, .inl (cI, 7, .inl m_mq)), (m_ybi, .inl (cI, 4, .inl m_bi)), (m_ysi, .inl (cI, 4, .inl m_sq)), (m_ynu, .inl (cJ, 160, .inr (.inl m_nb))), (m_ymo, .inl (cJ, 40, .inr (.inl m_mv9))), (h0, .inr (8, [.ref qh, .ref qk, .ref qd, .int b0, .ref qa, .ref qm, .ref qs, .ref qp, .ref ql, .ref qt, .ref qz, .ref qf])), (qf, .inl (cI, 7, .inl f2_6))] ++ tl) H := hP
      have hD : va_D A ([(qz, .inl (cS, 4, .inr (.inr (.inr (.inr (xSh s0 s1 s2 s3)))))), (s0, .inr (4, [.int bt0, .int (nI (sz0)), .ref sn0])), (s1, .inr (4, [.int bt1, .int (nI (sz1)), .ref sn1])), (s2, .inr (4, [.int bt2, .int (nI (sz2)), .ref sn2])), (s3, .inr (4, [.int bt3, .int (nI (sz3)), .ref sn3])), (sn0, .inl (cJ, 40, .inr (.inl nu0))), (sn1, .inl (cJ, 40, .inr (.inl nu1))), (sn2, .inl (cJ, 40, .inr (.inl nu2))), (sn3, .inl (cJ, 40, .inr (.inl nu3))), (g0, .inr (9, [.ref m_ys, .ref m_yk, .ref m_yo, .ref m_yt, .int b0, .ref m_yfa, .ref m_yfe, .int m_mL, .int m_mS, .int m_mM, .ref m_yro, .ref m_yhe, .ref m_ygr, .int m_mF, .int m_mC, .int m_mY, .ref m_yta, .int (nI (z)), .int (nI (m_mf)), .int (nI (m_mt)), .int m_mv, .int m_mw, .ref m_ywa, .ref m_ybi, .ref m_ysi, .ref m_ynu, .ref m_ymo])), (m_yt, .inl (cI, 7, .inl m_mq)), (m_ybi, .inl (cI, 4, .inl m_bi)), (m_ysi, .inl (cI, 4, .inl m_sq)), (m_ynu, .inl (cJ, 160, .inr (.inl m_nb))), (m_ymo, .inl (cJ, 40, .inr (.inl m_mv9))), (h0, .inr (8, [.ref qh, .ref qk, .ref qd, .int b0, .ref qa, .ref qm, .ref qs, .ref qp, .ref ql, .ref qt, .ref qz, .ref qf])), (qf, .inl (cI, 7, .inl f2_6))] ++ tl) := hD
      subst hw_r_5
      refine lv_pop hx hb dL_law_1308 rfl ?_
      refine lv_aload_n hx hb dL_law_1309 rfl (lv_at hl 1 rfl) ?_
      refine lv_aload_n hx hb dL_law_1310 rfl (lv_at hl 3 rfl) ?_
      refine lv_iload_n hx hb dL_law_1311 rfl (lv_at hl 0 rfl) ?_
      refine lv_iconst (v := 1) hx hb dL_law_1312 (by decide) ?_
      refine lv_iadd hx hb dL_law_1313 ?_
      refine xl_i (y := nI (i + 1)) (nI_add i 1) ?_
      refine va_sld hx hb hX hbl hbA hS (x_si (k := 1) (by decide) hi hL) dL_law_1314 ?_
      refine xl_i (y := xs (i + 1)) (congrArg xs (x_sc (k := 1) (by decide) hi hL)) ?_
      refine lv_aload_n hx hb dL_law_1315 rfl (lv_at hl 3 rfl) ?_
      refine lv_iload_n hx hb dL_law_1316 rfl (lv_at hl 0 rfl) ?_
      refine lv_iconst (v := 2) hx hb dL_law_1317 (by decide) ?_
      refine lv_iadd hx hb dL_law_1318 ?_
      refine xl_i (y := nI (i + 2)) (nI_add i 2) ?_
      refine va_sld hx hb hX hbl hbA hS (x_si (k := 2) (by decide) hi hL) dL_law_1319 ?_
      refine xl_i (y := xs (i + 2)) (congrArg xs (x_sc (k := 2) (by decide) hi hL)) ?_
      refine lv_aload_n hx hb dL_law_1320 rfl (lv_at hl 3 rfl) ?_
      refine lv_iload_n hx hb dL_law_1321 rfl (lv_at hl 0 rfl) ?_
      refine lv_iconst (v := 3) hx hb dL_law_1322 (by decide) ?_
      refine lv_iadd hx hb dL_law_1323 ?_
      refine xl_i (y := nI (i + 3)) (nI_add i 3) ?_
      refine va_sld hx hb hX hbl hbA hS (x_si (k := 3) (by decide) hi hL) dL_law_1324 ?_
      refine xl_i (y := xs (i + 3)) (congrArg xs (x_sc (k := 3) (by decide) hi hL)) ?_
      refine xl_i (y := 0) eq3 ?_
      refine lv_aload_n hx hb dL_law_1325 rfl (lv_at hl 3 rfl) ?_
      refine lv_iload_n hx hb dL_law_1326 rfl (lv_at hl 0 rfl) ?_
      refine lv_iconst (v := 4) hx hb dL_law_1327 (by decide) ?_
      refine lv_iadd hx hb dL_law_1328 ?_
      refine xl_i (y := nI (i + 4)) (nI_add i 4) ?_
      refine va_sld hx hb hX hbl hbA hS (x_si (k := 4) (by decide) hi hL) dL_law_1329 ?_
      refine xl_i (y := xs (i + 4)) (congrArg xs (x_sc (k := 4) (by decide) hi hL)) ?_
      refine lv_aload_n hx hb dL_law_1330 rfl (lv_at hl 3 rfl) ?_
      refine lv_iload_n hx hb dL_law_1331 rfl (lv_at hl 0 rfl) ?_
      refine lv_iconst (v := 5) hx hb dL_law_1332 (by decide) ?_
      refine lv_iadd hx hb dL_law_1333 ?_
      refine xl_i (y := nI (i + 5)) (nI_add i 5) ?_
      refine va_sld hx hb hX hbl hbA hS (x_si (k := 5) (by decide) hi hL) dL_law_1334 ?_
      refine xl_i (y := xs (i + 5)) (congrArg xs (x_sc (k := 5) (by decide) hi hL)) ?_
      refine xc_ViT (wr := [(qz, .inl (cS, 4, .inr (.inr (.inr (.inr (xSh s0 s1 s2 s3)))))), (s0, .inr (4, [.int bt0, .int (nI (sz0)), .ref sn0])), (s1, .inr (4, [.int bt1, .int (nI (sz1)), .ref sn1])), (s2, .inr (4, [.int bt2, .int (nI (sz2)), .ref sn2])), (s3, .inr (4, [.int bt3, .int (nI (sz3)), .ref sn3])), (sn0, .inl (cJ, 40, .inr (.inl nu0))), (sn1, .inl (cJ, 40, .inr (.inl nu1))), (sn2, .inl (cJ, 40, .inr (.inl nu2))), (sn3, .inl (cJ, 40, .inr (.inl nu3))), (m_ybi, .inl (cI, 4, .inl m_bi)), (m_ysi, .inl (cI, 4, .inl m_sq)), (m_ynu, .inl (cJ, 160, .inr (.inl m_nb))), (m_ymo, .inl (cJ, 40, .inr (.inl m_mv9))), (h0, .inr (8, [.ref qh, .ref qk, .ref qd, .int b0, .ref qa, .ref qm, .ref qs, .ref qp, .ref ql, .ref qt, .ref qz, .ref qf])), (qf, .inl (cI, 7, .inl f2_6))]) hF (c_X9_copy_o l D cI cJ cZ cS ta sa sv H.size g0 m_ys m_yk m_yo m_yt b0 m_yfa m_yfe m_mL m_mS m_mM m_yro m_yhe m_ygr m_mF m_mC m_mY m_yta z m_mf m_mt m_mv m_mw m_ywa m_ybi m_ysi m_ynu m_ymo m_mq (xs (i + 1)) (xs (i + 2)) 0 (xs (i + 4)) (xs (i + 5)) oq1) kv_L_170 ⟨rfl, rfl, Nat.le_of_ble_eq_true rfl, Nat.le_of_ble_eq_true rfl⟩ ⟨Nat.le_of_ble_eq_true rfl, Nat.le_of_ble_eq_true rfl⟩ hK hN hZ hP hD hS hA [9, 10] [0, 1, 2, 3, 4, 5, 6, 7, 8, 11, 12, 13, 14, 15, 16] rfl rfl rfl rfl (by decide) 0 rfl rfl rfl rfl hl.1 rfl (Nat.le_of_ble_eq_true rfl) dL_law_1335 (fun r_7 u_r_7 H locs hw_r_7 hP hD hS => ?_)
      obtain ⟨mq2_8, rfl⟩ : ∃ z, z = u_r_7 := ⟨_, rfl⟩
      try dsimp only at hw_r_7
      have hP : va_P D vwCl ([(qz, .inl (cS, 4, .inr (.inr (.inr (.inr (xSh s0 s1 s2 s3)))))), (s0, .inr (4, [.int bt0, .int (nI (sz0)), .ref sn0])), (s1, .inr (4, [.int bt1, .int (nI (sz1)), .ref sn1])), (s2, .inr (4, [.int bt2, .int (nI (sz2)), .ref sn2])), (s3, .inr (4, [.int bt3, .int (nI (sz3)), .ref sn3])), (sn0, .inl (cJ, 40, .inr (.inl nu0))), (sn1, .inl (cJ, 40, .inr (.inl nu1))), (sn2, .inl (cJ, 40, .inr (.inl nu2))), (sn3, .inl (cJ, 40, .inr (.inl nu3))), (m_ybi, .inl (cI, 4, .inl m_bi)), (m_ysi, .inl (cI, 4, .inl m_sq)), (m_ynu, .inl (cJ, 160, .inr (.inl m_nb))), (m_ymo, .inl (cJ, 40, .inr (.inl m_mv9))), (h0, .inr (8, [.ref qh, .ref qk, .ref qd, .int b0, .ref qa, .ref qm, .ref qs, .ref qp, .ref ql, .ref qt, .ref qz, .ref qf])), (qf, .inl (cI, 7, .inl f2_6)), (g0, .inr (9, [.ref m_ys, .ref m_yk, .ref m_yo, .ref m_yt, .int b0, .ref m_yfa, .ref m_yfe, .int m_mL, .int m_mS, .int m_mM, .ref m_yro, .ref m_yhe, .ref m_ygr, .int m_mF, .int m_mC, .int m_mY, .ref m_yta, .int (nI (z)), .int (nI (m_mf)), .int (nI (m_mt)), .int m_mv, .int m_mw, .ref m_ywa, .ref m_ybi, .ref m_ysi, .ref m_ynu, .ref m_ymo])), (m_yt, .inl (cI, 7, .inl mq2_8))] ++ tl) H := hP
      have hD : va_D A ([(qz, .inl (cS, 4, .inr (.inr (.inr (.inr (xSh s0 s1 s2 s3)))))), (s0, .inr (4, [.int bt0, .int (nI (sz0)), .ref sn0])), (s1, .inr (4, [.int bt1, .int (nI (sz1)), .ref sn1])), (s2, .inr (4, [.int bt2, .int (nI (sz2)), .ref sn2])), (s3, .inr (4, [.int bt3, .int (nI (sz3)), .ref sn3])), (sn0, .inl (cJ, 40, .inr (.inl nu0))), (sn1, .inl (cJ, 40, .inr (.inl nu1))), (sn2, .inl (cJ, 40, .inr (.inl nu2))), (sn3, .inl (cJ, 40, .inr (.inl nu3))), (m_ybi, .inl (cI, 4, .inl m_bi)), (m_ysi, .inl (cI, 4, .inl m_sq)), (m_ynu, .inl (cJ, 160, .inr (.inl m_nb))), (m_ymo, .inl (cJ, 40, .inr (.inl m_mv9))), (h0, .inr (8, [.ref qh, .ref qk, .ref qd, .int b0, .ref qa, .ref qm, .ref qs, .ref qp, .ref ql, .ref qt, .ref qz, .ref qf])), (qf, .inl (cI, 7, .inl f2_6)), (g0, .inr (9, [.ref m_ys, .ref m_yk, .ref m_yo, .ref m_yt, .int b0, .ref m_yfa, .ref m_yfe, .int m_mL, .int m_mS, .int m_mM, .ref m_yro, .ref m_yhe, .ref m_ygr, .int m_mF, .int m_mC, .int m_mY, .ref m_yta, .int (nI (z)), .int (nI (m_mf)), .int (nI (m_mt)), .int m_mv, .int m_mw, .ref m_ywa, .ref m_ybi, .ref m_ysi, .ref m_ynu, .ref m_ymo])), (m_yt, .inl (cI, 7, .inl mq2_8))] ++ tl) := hD
      subst hw_r_7
      refine lv_pop hx hb dL_law_1338 rfl ?_
      refine lv_goto (tgt := 1483) hx hb dL_law_1339 (by decide) ?_
      exact kkx _ _ _ nu0 nu1 nu2 nu3 f2_6 mq2_8 m_nb m_mv9 (xt_P hP [13, 0, 1, 2, 3, 4, 5, 6, 7, 8, 14, 15, 16, 9, 10, 11, 12] rfl) (xt_D hD [13, 0, 1, 2, 3, 4, 5, 6, 7, 8, 14, 15, 16, 9, 10, 11, 12] (by decide +kernel) rfl) r_n0 r_n1 r_n2 r_n3 hS hl
    · skip
      refine lv_aload_n hx hb dL_law_1280 rfl (lv_at hl 3 rfl) ?_
      refine lv_iload_n hx hb dL_law_1281 rfl (lv_at hl 0 rfl) ?_
      refine lv_iconst (v := 1) hx hb dL_law_1282 (by decide) ?_
      refine lv_iadd hx hb dL_law_1283 ?_
      refine xl_i (y := nI (i + 1)) (nI_add i 1) ?_
      refine va_sld hx hb hX hbl hbA hS (x_si (k := 1) (by decide) hi hL) dL_law_1284 ?_
      refine xl_i (y := xs (i + 1)) (congrArg xs (x_sc (k := 1) (by decide) hi hL)) ?_
      refine lv_aload_n hx hb dL_law_1285 rfl (lv_at hl 3 rfl) ?_
      refine lv_iload_n hx hb dL_law_1286 rfl (lv_at hl 0 rfl) ?_
      refine lv_iconst (v := 2) hx hb dL_law_1287 (by decide) ?_
      refine lv_iadd hx hb dL_law_1288 ?_
      refine xl_i (y := nI (i + 2)) (nI_add i 2) ?_
      refine va_sld hx hb hX hbl hbA hS (x_si (k := 2) (by decide) hi hL) dL_law_1289 ?_
      refine xl_i (y := xs (i + 2)) (congrArg xs (x_sc (k := 2) (by decide) hi hL)) ?_
      refine lv_aload_n hx hb dL_law_1290 rfl (lv_at hl 3 rfl) ?_
      refine lv_iload_n hx hb dL_law_1291 rfl (lv_at hl 0 rfl) ?_
      refine lv_iconst (v := 3) hx hb dL_law_1292 (by decide) ?_
      refine lv_iadd hx hb dL_law_1293 ?_
      refine xl_i (y := nI (i + 3)) (nI_add i 3) ?_
      refine va_sld hx hb hX hbl hbA hS (x_si (k := 3) (by decide) hi hL) dL_law_1294 ?_
      refine xl_i (y := xs (i + 3)) (congrArg xs (x_sc (k := 3) (by decide) hi hL)) ?_
      refine xl_i (y := 1) eq3 ?_
      refine lv_aload_n hx hb dL_law_1295 rfl (lv_at hl 3 rfl) ?_
      refine lv_iload_n hx hb dL_law_1296 rfl (lv_at hl 0 rfl) ?_
      refine lv_iconst (v := 4) hx hb dL_law_1297 (by decide) ?_
      refine lv_iadd hx hb dL_law_1298 ?_
      refine xl_i (y := nI (i + 4)) (nI_add i 4) ?_
      refine va_sld hx hb hX hbl hbA hS (x_si (k := 4) (by decide) hi hL) dL_law_1299 ?_
      refine xl_i (y := xs (i + 4)) (congrArg xs (x_sc (k := 4) (by decide) hi hL)) ?_
      refine lv_aload_n hx hb dL_law_1300 rfl (lv_at hl 3 rfl) ?_
      refine lv_iload_n hx hb dL_law_1301 rfl (lv_at hl 0 rfl) ?_
      refine lv_iconst (v := 5) hx hb dL_law_1302 (by decide) ?_
      refine lv_iadd hx hb dL_law_1303 ?_
      refine xl_i (y := nI (i + 5)) (nI_add i 5) ?_
      refine va_sld hx hb hX hbl hbA hS (x_si (k := 5) (by decide) hi hL) dL_law_1304 ?_
      refine xl_i (y := xs (i + 5)) (congrArg xs (x_sc (k := 5) (by decide) hi hL)) ?_
      refine xc_ViT (wr := [(qz, .inl (cS, 4, .inr (.inr (.inr (.inr (xSh s0 s1 s2 s3)))))), (s0, .inr (4, [.int bt0, .int (nI (sz0)), .ref sn0])), (s1, .inr (4, [.int bt1, .int (nI (sz1)), .ref sn1])), (s2, .inr (4, [.int bt2, .int (nI (sz2)), .ref sn2])), (s3, .inr (4, [.int bt3, .int (nI (sz3)), .ref sn3])), (sn0, .inl (cJ, 40, .inr (.inl nu0))), (sn1, .inl (cJ, 40, .inr (.inl nu1))), (sn2, .inl (cJ, 40, .inr (.inl nu2))), (sn3, .inl (cJ, 40, .inr (.inl nu3))), (g0, .inr (9, [.ref m_ys, .ref m_yk, .ref m_yo, .ref m_yt, .int b0, .ref m_yfa, .ref m_yfe, .int m_mL, .int m_mS, .int m_mM, .ref m_yro, .ref m_yhe, .ref m_ygr, .int m_mF, .int m_mC, .int m_mY, .ref m_yta, .int (nI (z)), .int (nI (m_mf)), .int (nI (m_mt)), .int m_mv, .int m_mw, .ref m_ywa, .ref m_ybi, .ref m_ysi, .ref m_ynu, .ref m_ymo])), (m_yt, .inl (cI, 7, .inl m_mq)), (m_ybi, .inl (cI, 4, .inl m_bi)), (m_ysi, .inl (cI, 4, .inl m_sq)), (m_ynu, .inl (cJ, 160, .inr (.inl m_nb))), (m_ymo, .inl (cJ, 40, .inr (.inl m_mv9)))]) hF (c_X8_copy_o l D cI cJ cZ cS ta sa sv H.size h0 qh qk qd b0 qa qm qs qp ql qt qz qf ff (xs (i + 1)) (xs (i + 2)) 1 (xs (i + 4)) (xs (i + 5)) oq1) kv_L_166 ⟨rfl, rfl, Nat.le_of_ble_eq_true rfl, Nat.le_of_ble_eq_true rfl⟩ ⟨Nat.le_of_ble_eq_true rfl, Nat.le_of_ble_eq_true rfl⟩ hK hN hZ hP hD hS hA [0, 10] [1, 2, 3, 4, 5, 6, 7, 8, 9, 11, 12, 13, 14, 15, 16] rfl rfl rfl rfl (by decide) 0 rfl rfl rfl rfl hl.1 rfl (Nat.le_of_ble_eq_true rfl) dL_law_1305 (fun r_9 u_r_9 H locs hw_r_9 hP hD hS => ?_)
      obtain ⟨f2_10, rfl⟩ : ∃ z, z = u_r_9 := ⟨_, rfl⟩
      try dsimp only at hw_r_9
      have hP : va_P D vwCl ([(qz, .inl (cS, 4, .inr (.inr (.inr (.inr (xSh s0 s1 s2 s3)))))), (s0, .inr (4, [.int bt0, .int (nI (sz0)), .ref sn0])), (s1, .inr (4, [.int bt1, .int (nI (sz1)), .ref sn1])), (s2, .inr (4, [.int bt2, .int (nI (sz2)), .ref sn2])), (s3, .inr (4, [.int bt3, .int (nI (sz3)), .ref sn3])), (sn0, .inl (cJ, 40, .inr (.inl nu0))), (sn1, .inl (cJ, 40, .inr (.inl nu1))), (sn2, .inl (cJ, 40, .inr (.inl nu2))), (sn3, .inl (cJ, 40, .inr (.inl nu3))), (g0, .inr (9, [.ref m_ys, .ref m_yk, .ref m_yo, .ref m_yt, .int b0, .ref m_yfa, .ref m_yfe, .int m_mL, .int m_mS, .int m_mM, .ref m_yro, .ref m_yhe, .ref m_ygr, .int m_mF, .int m_mC, .int m_mY, .ref m_yta, .int (nI (z)), .int (nI (m_mf)), .int (nI (m_mt)), .int m_mv, .int m_mw, .ref m_ywa, .ref m_ybi, .ref m_ysi, .ref m_ynu, .ref m_ymo])), (m_yt, .inl (cI, 7, .inl m_mq)), (m_ybi, .inl (cI, 4, .inl m_bi)), (m_ysi, .inl (cI, 4, .inl m_sq)), (m_ynu, .inl (cJ, 160, .inr (.inl m_nb))), (m_ymo, .inl (cJ, 40, .inr (.inl m_mv9))), (h0, .inr (8, [.ref qh, .ref qk, .ref qd, .int b0, .ref qa, .ref qm, .ref qs, .ref qp, .ref ql, .ref qt, .ref qz, .ref qf])), (qf, .inl (cI, 7, .inl f2_10))] ++ tl) H := hP
      have hD : va_D A ([(qz, .inl (cS, 4, .inr (.inr (.inr (.inr (xSh s0 s1 s2 s3)))))), (s0, .inr (4, [.int bt0, .int (nI (sz0)), .ref sn0])), (s1, .inr (4, [.int bt1, .int (nI (sz1)), .ref sn1])), (s2, .inr (4, [.int bt2, .int (nI (sz2)), .ref sn2])), (s3, .inr (4, [.int bt3, .int (nI (sz3)), .ref sn3])), (sn0, .inl (cJ, 40, .inr (.inl nu0))), (sn1, .inl (cJ, 40, .inr (.inl nu1))), (sn2, .inl (cJ, 40, .inr (.inl nu2))), (sn3, .inl (cJ, 40, .inr (.inl nu3))), (g0, .inr (9, [.ref m_ys, .ref m_yk, .ref m_yo, .ref m_yt, .int b0, .ref m_yfa, .ref m_yfe, .int m_mL, .int m_mS, .int m_mM, .ref m_yro, .ref m_yhe, .ref m_ygr, .int m_mF, .int m_mC, .int m_mY, .ref m_yta, .int (nI (z)), .int (nI (m_mf)), .int (nI (m_mt)), .int m_mv, .int m_mw, .ref m_ywa, .ref m_ybi, .ref m_ysi, .ref m_ynu, .ref m_ymo])), (m_yt, .inl (cI, 7, .inl m_mq)), (m_ybi, .inl (cI, 4, .inl m_bi)), (m_ysi, .inl (cI, 4, .inl m_sq)), (m_ynu, .inl (cJ, 160, .inr (.inl m_nb))), (m_ymo, .inl (cJ, 40, .inr (.inl m_mv9))), (h0, .inr (8, [.ref qh, .ref qk, .ref qd, .int b0, .ref qa, .ref qm, .ref qs, .ref qp, .ref ql, .ref qt, .ref qz, .ref qf])), (qf, .inl (cI, 7, .inl f2_10))] ++ tl) := hD
      subst hw_r_9
      refine lv_pop hx hb dL_law_1308 rfl ?_
      refine lv_aload_n hx hb dL_law_1309 rfl (lv_at hl 1 rfl) ?_
      refine lv_aload_n hx hb dL_law_1310 rfl (lv_at hl 3 rfl) ?_
      refine lv_iload_n hx hb dL_law_1311 rfl (lv_at hl 0 rfl) ?_
      refine lv_iconst (v := 1) hx hb dL_law_1312 (by decide) ?_
      refine lv_iadd hx hb dL_law_1313 ?_
      refine xl_i (y := nI (i + 1)) (nI_add i 1) ?_
      refine va_sld hx hb hX hbl hbA hS (x_si (k := 1) (by decide) hi hL) dL_law_1314 ?_
      refine xl_i (y := xs (i + 1)) (congrArg xs (x_sc (k := 1) (by decide) hi hL)) ?_
      refine lv_aload_n hx hb dL_law_1315 rfl (lv_at hl 3 rfl) ?_
      refine lv_iload_n hx hb dL_law_1316 rfl (lv_at hl 0 rfl) ?_
      refine lv_iconst (v := 2) hx hb dL_law_1317 (by decide) ?_
      refine lv_iadd hx hb dL_law_1318 ?_
      refine xl_i (y := nI (i + 2)) (nI_add i 2) ?_
      refine va_sld hx hb hX hbl hbA hS (x_si (k := 2) (by decide) hi hL) dL_law_1319 ?_
      refine xl_i (y := xs (i + 2)) (congrArg xs (x_sc (k := 2) (by decide) hi hL)) ?_
      refine lv_aload_n hx hb dL_law_1320 rfl (lv_at hl 3 rfl) ?_
      refine lv_iload_n hx hb dL_law_1321 rfl (lv_at hl 0 rfl) ?_
      refine lv_iconst (v := 3) hx hb dL_law_1322 (by decide) ?_
      refine lv_iadd hx hb dL_law_1323 ?_
      refine xl_i (y := nI (i + 3)) (nI_add i 3) ?_
      refine va_sld hx hb hX hbl hbA hS (x_si (k := 3) (by decide) hi hL) dL_law_1324 ?_
      refine xl_i (y := xs (i + 3)) (congrArg xs (x_sc (k := 3) (by decide) hi hL)) ?_
      refine xl_i (y := 1) eq3 ?_
      refine lv_aload_n hx hb dL_law_1325 rfl (lv_at hl 3 rfl) ?_
      refine lv_iload_n hx hb dL_law_1326 rfl (lv_at hl 0 rfl) ?_
      refine lv_iconst (v := 4) hx hb dL_law_1327 (by decide) ?_
      refine lv_iadd hx hb dL_law_1328 ?_
      refine xl_i (y := nI (i + 4)) (nI_add i 4) ?_
      refine va_sld hx hb hX hbl hbA hS (x_si (k := 4) (by decide) hi hL) dL_law_1329 ?_
      refine xl_i (y := xs (i + 4)) (congrArg xs (x_sc (k := 4) (by decide) hi hL)) ?_
      refine lv_aload_n hx hb dL_law_1330 rfl (lv_at hl 3 rfl) ?_
      refine lv_iload_n hx hb dL_law_1331 rfl (lv_at hl 0 rfl) ?_
      refine lv_iconst (v := 5) hx hb dL_law_1332 (by decide) ?_
      refine lv_iadd hx hb dL_law_1333 ?_
      refine xl_i (y := nI (i + 5)) (nI_add i 5) ?_
      refine va_sld hx hb hX hbl hbA hS (x_si (k := 5) (by decide) hi hL) dL_law_1334 ?_
      refine xl_i (y := xs (i + 5)) (congrArg xs (x_sc (k := 5) (by decide) hi hL)) ?_
      refine xc_ViT (wr := [(qz, .inl (cS, 4, .inr (.inr (.inr (.inr (xSh s0 s1 s2 s3)))))), (s0, .inr (4, [.int bt0, .int (nI (sz0)), .ref sn0])), (s1, .inr (4, [.int bt1, .int (nI (sz1)), .ref sn1])), (s2, .inr (4, [.int bt2, .int (nI (sz2)), .ref sn2])), (s3, .inr (4, [.int bt3, .int (nI (sz3)), .ref sn3])), (sn0, .inl (cJ, 40, .inr (.inl nu0))), (sn1, .inl (cJ, 40, .inr (.inl nu1))), (sn2, .inl (cJ, 40, .inr (.inl nu2))), (sn3, .inl (cJ, 40, .inr (.inl nu3))), (m_ybi, .inl (cI, 4, .inl m_bi)), (m_ysi, .inl (cI, 4, .inl m_sq)), (m_ynu, .inl (cJ, 160, .inr (.inl m_nb))), (m_ymo, .inl (cJ, 40, .inr (.inl m_mv9))), (h0, .inr (8, [.ref qh, .ref qk, .ref qd, .int b0, .ref qa, .ref qm, .ref qs, .ref qp, .ref ql, .ref qt, .ref qz, .ref qf])), (qf, .inl (cI, 7, .inl f2_10))]) hF (c_X9_copy_o l D cI cJ cZ cS ta sa sv H.size g0 m_ys m_yk m_yo m_yt b0 m_yfa m_yfe m_mL m_mS m_mM m_yro m_yhe m_ygr m_mF m_mC m_mY m_yta z m_mf m_mt m_mv m_mw m_ywa m_ybi m_ysi m_ynu m_ymo m_mq (xs (i + 1)) (xs (i + 2)) 1 (xs (i + 4)) (xs (i + 5)) oq1) kv_L_170 ⟨rfl, rfl, Nat.le_of_ble_eq_true rfl, Nat.le_of_ble_eq_true rfl⟩ ⟨Nat.le_of_ble_eq_true rfl, Nat.le_of_ble_eq_true rfl⟩ hK hN hZ hP hD hS hA [9, 10] [0, 1, 2, 3, 4, 5, 6, 7, 8, 11, 12, 13, 14, 15, 16] rfl rfl rfl rfl (by decide) 0 rfl rfl rfl rfl hl.1 rfl (Nat.le_of_ble_eq_true rfl) dL_law_1335 (fun r_11 u_r_11 H locs hw_r_11 hP hD hS => ?_)
      obtain ⟨mq2_12, rfl⟩ : ∃ z, z = u_r_11 := ⟨_, rfl⟩
      try dsimp only at hw_r_11
      have hP : va_P D vwCl ([(qz, .inl (cS, 4, .inr (.inr (.inr (.inr (xSh s0 s1 s2 s3)))))), (s0, .inr (4, [.int bt0, .int (nI (sz0)), .ref sn0])), (s1, .inr (4, [.int bt1, .int (nI (sz1)), .ref sn1])), (s2, .inr (4, [.int bt2, .int (nI (sz2)), .ref sn2])), (s3, .inr (4, [.int bt3, .int (nI (sz3)), .ref sn3])), (sn0, .inl (cJ, 40, .inr (.inl nu0))), (sn1, .inl (cJ, 40, .inr (.inl nu1))), (sn2, .inl (cJ, 40, .inr (.inl nu2))), (sn3, .inl (cJ, 40, .inr (.inl nu3))), (m_ybi, .inl (cI, 4, .inl m_bi)), (m_ysi, .inl (cI, 4, .inl m_sq)), (m_ynu, .inl (cJ, 160, .inr (.inl m_nb))), (m_ymo, .inl (cJ, 40, .inr (.inl m_mv9))), (h0, .inr (8, [.ref qh, .ref qk, .ref qd, .int b0, .ref qa, .ref qm, .ref qs, .ref qp, .ref ql, .ref qt, .ref qz, .ref qf])), (qf, .inl (cI, 7, .inl f2_10)), (g0, .inr (9, [.ref m_ys, .ref m_yk, .ref m_yo, .ref m_yt, .int b0, .ref m_yfa, .ref m_yfe, .int m_mL, .int m_mS, .int m_mM, .ref m_yro, .ref m_yhe, .ref m_ygr, .int m_mF, .int m_mC, .int m_mY, .ref m_yta, .int (nI (z)), .int (nI (m_mf)), .int (nI (m_mt)), .int m_mv, .int m_mw, .ref m_ywa, .ref m_ybi, .ref m_ysi, .ref m_ynu, .ref m_ymo])), (m_yt, .inl (cI, 7, .inl mq2_12))] ++ tl) H := hP
      have hD : va_D A ([(qz, .inl (cS, 4, .inr (.inr (.inr (.inr (xSh s0 s1 s2 s3)))))), (s0, .inr (4, [.int bt0, .int (nI (sz0)), .ref sn0])), (s1, .inr (4, [.int bt1, .int (nI (sz1)), .ref sn1])), (s2, .inr (4, [.int bt2, .int (nI (sz2)), .ref sn2])), (s3, .inr (4, [.int bt3, .int (nI (sz3)), .ref sn3])), (sn0, .inl (cJ, 40, .inr (.inl nu0))), (sn1, .inl (cJ, 40, .inr (.inl nu1))), (sn2, .inl (cJ, 40, .inr (.inl nu2))), (sn3, .inl (cJ, 40, .inr (.inl nu3))), (m_ybi, .inl (cI, 4, .inl m_bi)), (m_ysi, .inl (cI, 4, .inl m_sq)), (m_ynu, .inl (cJ, 160, .inr (.inl m_nb))), (m_ymo, .inl (cJ, 40, .inr (.inl m_mv9))), (h0, .inr (8, [.ref qh, .ref qk, .ref qd, .int b0, .ref qa, .ref qm, .ref qs, .ref qp, .ref ql, .ref qt, .ref qz, .ref qf])), (qf, .inl (cI, 7, .inl f2_10)), (g0, .inr (9, [.ref m_ys, .ref m_yk, .ref m_yo, .ref m_yt, .int b0, .ref m_yfa, .ref m_yfe, .int m_mL, .int m_mS, .int m_mM, .ref m_yro, .ref m_yhe, .ref m_ygr, .int m_mF, .int m_mC, .int m_mY, .ref m_yta, .int (nI (z)), .int (nI (m_mf)), .int (nI (m_mt)), .int m_mv, .int m_mw, .ref m_ywa, .ref m_ybi, .ref m_ysi, .ref m_ynu, .ref m_ymo])), (m_yt, .inl (cI, 7, .inl mq2_12))] ++ tl) := hD
      subst hw_r_11
      refine lv_pop hx hb dL_law_1338 rfl ?_
      refine lv_goto (tgt := 1483) hx hb dL_law_1339 (by decide) ?_
      exact kkx _ _ _ nu0 nu1 nu2 nu3 f2_10 mq2_12 m_nb m_mv9 (xt_P hP [13, 0, 1, 2, 3, 4, 5, 6, 7, 8, 14, 15, 16, 9, 10, 11, 12] rfl) (xt_D hD [13, 0, 1, 2, 3, 4, 5, 6, 7, 8, 14, 15, 16, 9, 10, 11, 12] (by decide +kernel) rfl) r_n0 r_n1 r_n2 r_n3 hS hl
    · skip
      refine lv_aload_n hx hb dL_law_1280 rfl (lv_at hl 3 rfl) ?_
      refine lv_iload_n hx hb dL_law_1281 rfl (lv_at hl 0 rfl) ?_
      refine lv_iconst (v := 1) hx hb dL_law_1282 (by decide) ?_
      refine lv_iadd hx hb dL_law_1283 ?_
      refine xl_i (y := nI (i + 1)) (nI_add i 1) ?_
      refine va_sld hx hb hX hbl hbA hS (x_si (k := 1) (by decide) hi hL) dL_law_1284 ?_
      refine xl_i (y := xs (i + 1)) (congrArg xs (x_sc (k := 1) (by decide) hi hL)) ?_
      refine lv_aload_n hx hb dL_law_1285 rfl (lv_at hl 3 rfl) ?_
      refine lv_iload_n hx hb dL_law_1286 rfl (lv_at hl 0 rfl) ?_
      refine lv_iconst (v := 2) hx hb dL_law_1287 (by decide) ?_
      refine lv_iadd hx hb dL_law_1288 ?_
      refine xl_i (y := nI (i + 2)) (nI_add i 2) ?_
      refine va_sld hx hb hX hbl hbA hS (x_si (k := 2) (by decide) hi hL) dL_law_1289 ?_
      refine xl_i (y := xs (i + 2)) (congrArg xs (x_sc (k := 2) (by decide) hi hL)) ?_
      refine lv_aload_n hx hb dL_law_1290 rfl (lv_at hl 3 rfl) ?_
      refine lv_iload_n hx hb dL_law_1291 rfl (lv_at hl 0 rfl) ?_
      refine lv_iconst (v := 3) hx hb dL_law_1292 (by decide) ?_
      refine lv_iadd hx hb dL_law_1293 ?_
      refine xl_i (y := nI (i + 3)) (nI_add i 3) ?_
      refine va_sld hx hb hX hbl hbA hS (x_si (k := 3) (by decide) hi hL) dL_law_1294 ?_
      refine xl_i (y := xs (i + 3)) (congrArg xs (x_sc (k := 3) (by decide) hi hL)) ?_
      refine xl_i (y := 2) eq3 ?_
      refine lv_aload_n hx hb dL_law_1295 rfl (lv_at hl 3 rfl) ?_
      refine lv_iload_n hx hb dL_law_1296 rfl (lv_at hl 0 rfl) ?_
      refine lv_iconst (v := 4) hx hb dL_law_1297 (by decide) ?_
      refine lv_iadd hx hb dL_law_1298 ?_
      refine xl_i (y := nI (i + 4)) (nI_add i 4) ?_
      refine va_sld hx hb hX hbl hbA hS (x_si (k := 4) (by decide) hi hL) dL_law_1299 ?_
      refine xl_i (y := xs (i + 4)) (congrArg xs (x_sc (k := 4) (by decide) hi hL)) ?_
      refine lv_aload_n hx hb dL_law_1300 rfl (lv_at hl 3 rfl) ?_
      refine lv_iload_n hx hb dL_law_1301 rfl (lv_at hl 0 rfl) ?_
      refine lv_iconst (v := 5) hx hb dL_law_1302 (by decide) ?_
      refine lv_iadd hx hb dL_law_1303 ?_
      refine xl_i (y := nI (i + 5)) (nI_add i 5) ?_
      refine va_sld hx hb hX hbl hbA hS (x_si (k := 5) (by decide) hi hL) dL_law_1304 ?_
      refine xl_i (y := xs (i + 5)) (congrArg xs (x_sc (k := 5) (by decide) hi hL)) ?_
      refine xc_ViT (wr := [(qz, .inl (cS, 4, .inr (.inr (.inr (.inr (xSh s0 s1 s2 s3)))))), (s0, .inr (4, [.int bt0, .int (nI (sz0)), .ref sn0])), (s1, .inr (4, [.int bt1, .int (nI (sz1)), .ref sn1])), (s2, .inr (4, [.int bt2, .int (nI (sz2)), .ref sn2])), (s3, .inr (4, [.int bt3, .int (nI (sz3)), .ref sn3])), (sn0, .inl (cJ, 40, .inr (.inl nu0))), (sn1, .inl (cJ, 40, .inr (.inl nu1))), (sn2, .inl (cJ, 40, .inr (.inl nu2))), (sn3, .inl (cJ, 40, .inr (.inl nu3))), (g0, .inr (9, [.ref m_ys, .ref m_yk, .ref m_yo, .ref m_yt, .int b0, .ref m_yfa, .ref m_yfe, .int m_mL, .int m_mS, .int m_mM, .ref m_yro, .ref m_yhe, .ref m_ygr, .int m_mF, .int m_mC, .int m_mY, .ref m_yta, .int (nI (z)), .int (nI (m_mf)), .int (nI (m_mt)), .int m_mv, .int m_mw, .ref m_ywa, .ref m_ybi, .ref m_ysi, .ref m_ynu, .ref m_ymo])), (m_yt, .inl (cI, 7, .inl m_mq)), (m_ybi, .inl (cI, 4, .inl m_bi)), (m_ysi, .inl (cI, 4, .inl m_sq)), (m_ynu, .inl (cJ, 160, .inr (.inl m_nb))), (m_ymo, .inl (cJ, 40, .inr (.inl m_mv9)))]) hF (c_X8_copy_o l D cI cJ cZ cS ta sa sv H.size h0 qh qk qd b0 qa qm qs qp ql qt qz qf ff (xs (i + 1)) (xs (i + 2)) 2 (xs (i + 4)) (xs (i + 5)) oq1) kv_L_166 ⟨rfl, rfl, Nat.le_of_ble_eq_true rfl, Nat.le_of_ble_eq_true rfl⟩ ⟨Nat.le_of_ble_eq_true rfl, Nat.le_of_ble_eq_true rfl⟩ hK hN hZ hP hD hS hA [0, 10] [1, 2, 3, 4, 5, 6, 7, 8, 9, 11, 12, 13, 14, 15, 16] rfl rfl rfl rfl (by decide) 0 rfl rfl rfl rfl hl.1 rfl (Nat.le_of_ble_eq_true rfl) dL_law_1305 (fun r_13 u_r_13 H locs hw_r_13 hP hD hS => ?_)
      obtain ⟨f2_14, rfl⟩ : ∃ z, z = u_r_13 := ⟨_, rfl⟩
      try dsimp only at hw_r_13
      have hP : va_P D vwCl ([(qz, .inl (cS, 4, .inr (.inr (.inr (.inr (xSh s0 s1 s2 s3)))))), (s0, .inr (4, [.int bt0, .int (nI (sz0)), .ref sn0])), (s1, .inr (4, [.int bt1, .int (nI (sz1)), .ref sn1])), (s2, .inr (4, [.int bt2, .int (nI (sz2)), .ref sn2])), (s3, .inr (4, [.int bt3, .int (nI (sz3)), .ref sn3])), (sn0, .inl (cJ, 40, .inr (.inl nu0))), (sn1, .inl (cJ, 40, .inr (.inl nu1))), (sn2, .inl (cJ, 40, .inr (.inl nu2))), (sn3, .inl (cJ, 40, .inr (.inl nu3))), (g0, .inr (9, [.ref m_ys, .ref m_yk, .ref m_yo, .ref m_yt, .int b0, .ref m_yfa, .ref m_yfe, .int m_mL, .int m_mS, .int m_mM, .ref m_yro, .ref m_yhe, .ref m_ygr, .int m_mF, .int m_mC, .int m_mY, .ref m_yta, .int (nI (z)), .int (nI (m_mf)), .int (nI (m_mt)), .int m_mv, .int m_mw, .ref m_ywa, .ref m_ybi, .ref m_ysi, .ref m_ynu, .ref m_ymo])), (m_yt, .inl (cI, 7, .inl m_mq)), (m_ybi, .inl (cI, 4, .inl m_bi)), (m_ysi, .inl (cI, 4, .inl m_sq)), (m_ynu, .inl (cJ, 160, .inr (.inl m_nb))), (m_ymo, .inl (cJ, 40, .inr (.inl m_mv9))), (h0, .inr (8, [.ref qh, .ref qk, .ref qd, .int b0, .ref qa, .ref qm, .ref qs, .ref qp, .ref ql, .ref qt, .ref qz, .ref qf])), (qf, .inl (cI, 7, .inl f2_14))] ++ tl) H := hP
      have hD : va_D A ([(qz, .inl (cS, 4, .inr (.inr (.inr (.inr (xSh s0 s1 s2 s3)))))), (s0, .inr (4, [.int bt0, .int (nI (sz0)), .ref sn0])), (s1, .inr (4, [.int bt1, .int (nI (sz1)), .ref sn1])), (s2, .inr (4, [.int bt2, .int (nI (sz2)), .ref sn2])), (s3, .inr (4, [.int bt3, .int (nI (sz3)), .ref sn3])), (sn0, .inl (cJ, 40, .inr (.inl nu0))), (sn1, .inl (cJ, 40, .inr (.inl nu1))), (sn2, .inl (cJ, 40, .inr (.inl nu2))), (sn3, .inl (cJ, 40, .inr (.inl nu3))), (g0, .inr (9, [.ref m_ys, .ref m_yk, .ref m_yo, .ref m_yt, .int b0, .ref m_yfa, .ref m_yfe, .int m_mL, .int m_mS, .int m_mM, .ref m_yro, .ref m_yhe, .ref m_ygr, .int m_mF, .int m_mC, .int m_mY, .ref m_yta, .int (nI (z)), .int (nI (m_mf)), .int (nI (m_mt)), .int m_mv, .int m_mw, .ref m_ywa, .ref m_ybi, .ref m_ysi, .ref m_ynu, .ref m_ymo])), (m_yt, .inl (cI, 7, .inl m_mq)), (m_ybi, .inl (cI, 4, .inl m_bi)), (m_ysi, .inl (cI, 4, .inl m_sq)), (m_ynu, .inl (cJ, 160, .inr (.inl m_nb))), (m_ymo, .inl (cJ, 40, .inr (.inl m_mv9))), (h0, .inr (8, [.ref qh, .ref qk, .ref qd, .int b0, .ref qa, .ref qm, .ref qs, .ref qp, .ref ql, .ref qt, .ref qz, .ref qf])), (qf, .inl (cI, 7, .inl f2_14))] ++ tl) := hD
      subst hw_r_13
      refine lv_pop hx hb dL_law_1308 rfl ?_
      refine lv_aload_n hx hb dL_law_1309 rfl (lv_at hl 1 rfl) ?_
      refine lv_aload_n hx hb dL_law_1310 rfl (lv_at hl 3 rfl) ?_
      refine lv_iload_n hx hb dL_law_1311 rfl (lv_at hl 0 rfl) ?_
      refine lv_iconst (v := 1) hx hb dL_law_1312 (by decide) ?_
      refine lv_iadd hx hb dL_law_1313 ?_
      refine xl_i (y := nI (i + 1)) (nI_add i 1) ?_
      refine va_sld hx hb hX hbl hbA hS (x_si (k := 1) (by decide) hi hL) dL_law_1314 ?_
      refine xl_i (y := xs (i + 1)) (congrArg xs (x_sc (k := 1) (by decide) hi hL)) ?_
      refine lv_aload_n hx hb dL_law_1315 rfl (lv_at hl 3 rfl) ?_
      refine lv_iload_n hx hb dL_law_1316 rfl (lv_at hl 0 rfl) ?_
      refine lv_iconst (v := 2) hx hb dL_law_1317 (by decide) ?_
      refine lv_iadd hx hb dL_law_1318 ?_
      refine xl_i (y := nI (i + 2)) (nI_add i 2) ?_
      refine va_sld hx hb hX hbl hbA hS (x_si (k := 2) (by decide) hi hL) dL_law_1319 ?_
      refine xl_i (y := xs (i + 2)) (congrArg xs (x_sc (k := 2) (by decide) hi hL)) ?_
      refine lv_aload_n hx hb dL_law_1320 rfl (lv_at hl 3 rfl) ?_
      refine lv_iload_n hx hb dL_law_1321 rfl (lv_at hl 0 rfl) ?_
      refine lv_iconst (v := 3) hx hb dL_law_1322 (by decide) ?_
      refine lv_iadd hx hb dL_law_1323 ?_
      refine xl_i (y := nI (i + 3)) (nI_add i 3) ?_
      refine va_sld hx hb hX hbl hbA hS (x_si (k := 3) (by decide) hi hL) dL_law_1324 ?_
      refine xl_i (y := xs (i + 3)) (congrArg xs (x_sc (k := 3) (by decide) hi hL)) ?_
      refine xl_i (y := 2) eq3 ?_
      refine lv_aload_n hx hb dL_law_1325 rfl (lv_at hl 3 rfl) ?_
      refine lv_iload_n hx hb dL_law_1326 rfl (lv_at hl 0 rfl) ?_
      refine lv_iconst (v := 4) hx hb dL_law_1327 (by decide) ?_
      refine lv_iadd hx hb dL_law_1328 ?_
      refine xl_i (y := nI (i + 4)) (nI_add i 4) ?_
      refine va_sld hx hb hX hbl hbA hS (x_si (k := 4) (by decide) hi hL) dL_law_1329 ?_
      refine xl_i (y := xs (i + 4)) (congrArg xs (x_sc (k := 4) (by decide) hi hL)) ?_
      refine lv_aload_n hx hb dL_law_1330 rfl (lv_at hl 3 rfl) ?_
      refine lv_iload_n hx hb dL_law_1331 rfl (lv_at hl 0 rfl) ?_
      refine lv_iconst (v := 5) hx hb dL_law_1332 (by decide) ?_
      refine lv_iadd hx hb dL_law_1333 ?_
      refine xl_i (y := nI (i + 5)) (nI_add i 5) ?_
      refine va_sld hx hb hX hbl hbA hS (x_si (k := 5) (by decide) hi hL) dL_law_1334 ?_
      refine xl_i (y := xs (i + 5)) (congrArg xs (x_sc (k := 5) (by decide) hi hL)) ?_
      refine xc_ViT (wr := [(qz, .inl (cS, 4, .inr (.inr (.inr (.inr (xSh s0 s1 s2 s3)))))), (s0, .inr (4, [.int bt0, .int (nI (sz0)), .ref sn0])), (s1, .inr (4, [.int bt1, .int (nI (sz1)), .ref sn1])), (s2, .inr (4, [.int bt2, .int (nI (sz2)), .ref sn2])), (s3, .inr (4, [.int bt3, .int (nI (sz3)), .ref sn3])), (sn0, .inl (cJ, 40, .inr (.inl nu0))), (sn1, .inl (cJ, 40, .inr (.inl nu1))), (sn2, .inl (cJ, 40, .inr (.inl nu2))), (sn3, .inl (cJ, 40, .inr (.inl nu3))), (m_ybi, .inl (cI, 4, .inl m_bi)), (m_ysi, .inl (cI, 4, .inl m_sq)), (m_ynu, .inl (cJ, 160, .inr (.inl m_nb))), (m_ymo, .inl (cJ, 40, .inr (.inl m_mv9))), (h0, .inr (8, [.ref qh, .ref qk, .ref qd, .int b0, .ref qa, .ref qm, .ref qs, .ref qp, .ref ql, .ref qt, .ref qz, .ref qf])), (qf, .inl (cI, 7, .inl f2_14))]) hF (c_X9_copy_o l D cI cJ cZ cS ta sa sv H.size g0 m_ys m_yk m_yo m_yt b0 m_yfa m_yfe m_mL m_mS m_mM m_yro m_yhe m_ygr m_mF m_mC m_mY m_yta z m_mf m_mt m_mv m_mw m_ywa m_ybi m_ysi m_ynu m_ymo m_mq (xs (i + 1)) (xs (i + 2)) 2 (xs (i + 4)) (xs (i + 5)) oq1) kv_L_170 ⟨rfl, rfl, Nat.le_of_ble_eq_true rfl, Nat.le_of_ble_eq_true rfl⟩ ⟨Nat.le_of_ble_eq_true rfl, Nat.le_of_ble_eq_true rfl⟩ hK hN hZ hP hD hS hA [9, 10] [0, 1, 2, 3, 4, 5, 6, 7, 8, 11, 12, 13, 14, 15, 16] rfl rfl rfl rfl (by decide) 0 rfl rfl rfl rfl hl.1 rfl (Nat.le_of_ble_eq_true rfl) dL_law_1335 (fun r_15 u_r_15 H locs hw_r_15 hP hD hS => ?_)
      obtain ⟨mq2_16, rfl⟩ : ∃ z, z = u_r_15 := ⟨_, rfl⟩
      try dsimp only at hw_r_15
      have hP : va_P D vwCl ([(qz, .inl (cS, 4, .inr (.inr (.inr (.inr (xSh s0 s1 s2 s3)))))), (s0, .inr (4, [.int bt0, .int (nI (sz0)), .ref sn0])), (s1, .inr (4, [.int bt1, .int (nI (sz1)), .ref sn1])), (s2, .inr (4, [.int bt2, .int (nI (sz2)), .ref sn2])), (s3, .inr (4, [.int bt3, .int (nI (sz3)), .ref sn3])), (sn0, .inl (cJ, 40, .inr (.inl nu0))), (sn1, .inl (cJ, 40, .inr (.inl nu1))), (sn2, .inl (cJ, 40, .inr (.inl nu2))), (sn3, .inl (cJ, 40, .inr (.inl nu3))), (m_ybi, .inl (cI, 4, .inl m_bi)), (m_ysi, .inl (cI, 4, .inl m_sq)), (m_ynu, .inl (cJ, 160, .inr (.inl m_nb))), (m_ymo, .inl (cJ, 40, .inr (.inl m_mv9))), (h0, .inr (8, [.ref qh, .ref qk, .ref qd, .int b0, .ref qa, .ref qm, .ref qs, .ref qp, .ref ql, .ref qt, .ref qz, .ref qf])), (qf, .inl (cI, 7, .inl f2_14)), (g0, .inr (9, [.ref m_ys, .ref m_yk, .ref m_yo, .ref m_yt, .int b0, .ref m_yfa, .ref m_yfe, .int m_mL, .int m_mS, .int m_mM, .ref m_yro, .ref m_yhe, .ref m_ygr, .int m_mF, .int m_mC, .int m_mY, .ref m_yta, .int (nI (z)), .int (nI (m_mf)), .int (nI (m_mt)), .int m_mv, .int m_mw, .ref m_ywa, .ref m_ybi, .ref m_ysi, .ref m_ynu, .ref m_ymo])), (m_yt, .inl (cI, 7, .inl mq2_16))] ++ tl) H := hP
      have hD : va_D A ([(qz, .inl (cS, 4, .inr (.inr (.inr (.inr (xSh s0 s1 s2 s3)))))), (s0, .inr (4, [.int bt0, .int (nI (sz0)), .ref sn0])), (s1, .inr (4, [.int bt1, .int (nI (sz1)), .ref sn1])), (s2, .inr (4, [.int bt2, .int (nI (sz2)), .ref sn2])), (s3, .inr (4, [.int bt3, .int (nI (sz3)), .ref sn3])), (sn0, .inl (cJ, 40, .inr (.inl nu0))), (sn1, .inl (cJ, 40, .inr (.inl nu1))), (sn2, .inl (cJ, 40, .inr (.inl nu2))), (sn3, .inl (cJ, 40, .inr (.inl nu3))), (m_ybi, .inl (cI, 4, .inl m_bi)), (m_ysi, .inl (cI, 4, .inl m_sq)), (m_ynu, .inl (cJ, 160, .inr (.inl m_nb))), (m_ymo, .inl (cJ, 40, .inr (.inl m_mv9))), (h0, .inr (8, [.ref qh, .ref qk, .ref qd, .int b0, .ref qa, .ref qm, .ref qs, .ref qp, .ref ql, .ref qt, .ref qz, .ref qf])), (qf, .inl (cI, 7, .inl f2_14)), (g0, .inr (9, [.ref m_ys, .ref m_yk, .ref m_yo, .ref m_yt, .int b0, .ref m_yfa, .ref m_yfe, .int m_mL, .int m_mS, .int m_mM, .ref m_yro, .ref m_yhe, .ref m_ygr, .int m_mF, .int m_mC, .int m_mY, .ref m_yta, .int (nI (z)), .int (nI (m_mf)), .int (nI (m_mt)), .int m_mv, .int m_mw, .ref m_ywa, .ref m_ybi, .ref m_ysi, .ref m_ynu, .ref m_ymo])), (m_yt, .inl (cI, 7, .inl mq2_16))] ++ tl) := hD
      subst hw_r_15
      refine lv_pop hx hb dL_law_1338 rfl ?_
      refine lv_goto (tgt := 1483) hx hb dL_law_1339 (by decide) ?_
      exact kkx _ _ _ nu0 nu1 nu2 nu3 f2_14 mq2_16 m_nb m_mv9 (xt_P hP [13, 0, 1, 2, 3, 4, 5, 6, 7, 8, 14, 15, 16, 9, 10, 11, 12] rfl) (xt_D hD [13, 0, 1, 2, 3, 4, 5, 6, 7, 8, 14, 15, 16, 9, 10, 11, 12] (by decide +kernel) rfl) r_n0 r_n1 r_n2 r_n3 hS hl
    · skip
      refine lv_aload_n hx hb dL_law_1280 rfl (lv_at hl 3 rfl) ?_
      refine lv_iload_n hx hb dL_law_1281 rfl (lv_at hl 0 rfl) ?_
      refine lv_iconst (v := 1) hx hb dL_law_1282 (by decide) ?_
      refine lv_iadd hx hb dL_law_1283 ?_
      refine xl_i (y := nI (i + 1)) (nI_add i 1) ?_
      refine va_sld hx hb hX hbl hbA hS (x_si (k := 1) (by decide) hi hL) dL_law_1284 ?_
      refine xl_i (y := xs (i + 1)) (congrArg xs (x_sc (k := 1) (by decide) hi hL)) ?_
      refine lv_aload_n hx hb dL_law_1285 rfl (lv_at hl 3 rfl) ?_
      refine lv_iload_n hx hb dL_law_1286 rfl (lv_at hl 0 rfl) ?_
      refine lv_iconst (v := 2) hx hb dL_law_1287 (by decide) ?_
      refine lv_iadd hx hb dL_law_1288 ?_
      refine xl_i (y := nI (i + 2)) (nI_add i 2) ?_
      refine va_sld hx hb hX hbl hbA hS (x_si (k := 2) (by decide) hi hL) dL_law_1289 ?_
      refine xl_i (y := xs (i + 2)) (congrArg xs (x_sc (k := 2) (by decide) hi hL)) ?_
      refine lv_aload_n hx hb dL_law_1290 rfl (lv_at hl 3 rfl) ?_
      refine lv_iload_n hx hb dL_law_1291 rfl (lv_at hl 0 rfl) ?_
      refine lv_iconst (v := 3) hx hb dL_law_1292 (by decide) ?_
      refine lv_iadd hx hb dL_law_1293 ?_
      refine xl_i (y := nI (i + 3)) (nI_add i 3) ?_
      refine va_sld hx hb hX hbl hbA hS (x_si (k := 3) (by decide) hi hL) dL_law_1294 ?_
      refine xl_i (y := xs (i + 3)) (congrArg xs (x_sc (k := 3) (by decide) hi hL)) ?_
      refine xl_i (y := 3) eq3 ?_
      refine lv_aload_n hx hb dL_law_1295 rfl (lv_at hl 3 rfl) ?_
      refine lv_iload_n hx hb dL_law_1296 rfl (lv_at hl 0 rfl) ?_
      refine lv_iconst (v := 4) hx hb dL_law_1297 (by decide) ?_
      refine lv_iadd hx hb dL_law_1298 ?_
      refine xl_i (y := nI (i + 4)) (nI_add i 4) ?_
      refine va_sld hx hb hX hbl hbA hS (x_si (k := 4) (by decide) hi hL) dL_law_1299 ?_
      refine xl_i (y := xs (i + 4)) (congrArg xs (x_sc (k := 4) (by decide) hi hL)) ?_
      refine lv_aload_n hx hb dL_law_1300 rfl (lv_at hl 3 rfl) ?_
      refine lv_iload_n hx hb dL_law_1301 rfl (lv_at hl 0 rfl) ?_
      refine lv_iconst (v := 5) hx hb dL_law_1302 (by decide) ?_
      refine lv_iadd hx hb dL_law_1303 ?_
      refine xl_i (y := nI (i + 5)) (nI_add i 5) ?_
      refine va_sld hx hb hX hbl hbA hS (x_si (k := 5) (by decide) hi hL) dL_law_1304 ?_
      refine xl_i (y := xs (i + 5)) (congrArg xs (x_sc (k := 5) (by decide) hi hL)) ?_
      refine xc_ViT (wr := [(qz, .inl (cS, 4, .inr (.inr (.inr (.inr (xSh s0 s1 s2 s3)))))), (s0, .inr (4, [.int bt0, .int (nI (sz0)), .ref sn0])), (s1, .inr (4, [.int bt1, .int (nI (sz1)), .ref sn1])), (s2, .inr (4, [.int bt2, .int (nI (sz2)), .ref sn2])), (s3, .inr (4, [.int bt3, .int (nI (sz3)), .ref sn3])), (sn0, .inl (cJ, 40, .inr (.inl nu0))), (sn1, .inl (cJ, 40, .inr (.inl nu1))), (sn2, .inl (cJ, 40, .inr (.inl nu2))), (sn3, .inl (cJ, 40, .inr (.inl nu3))), (g0, .inr (9, [.ref m_ys, .ref m_yk, .ref m_yo, .ref m_yt, .int b0, .ref m_yfa, .ref m_yfe, .int m_mL, .int m_mS, .int m_mM, .ref m_yro, .ref m_yhe, .ref m_ygr, .int m_mF, .int m_mC, .int m_mY, .ref m_yta, .int (nI (z)), .int (nI (m_mf)), .int (nI (m_mt)), .int m_mv, .int m_mw, .ref m_ywa, .ref m_ybi, .ref m_ysi, .ref m_ynu, .ref m_ymo])), (m_yt, .inl (cI, 7, .inl m_mq)), (m_ybi, .inl (cI, 4, .inl m_bi)), (m_ysi, .inl (cI, 4, .inl m_sq)), (m_ynu, .inl (cJ, 160, .inr (.inl m_nb))), (m_ymo, .inl (cJ, 40, .inr (.inl m_mv9)))]) hF (c_X8_copy_o l D cI cJ cZ cS ta sa sv H.size h0 qh qk qd b0 qa qm qs qp ql qt qz qf ff (xs (i + 1)) (xs (i + 2)) 3 (xs (i + 4)) (xs (i + 5)) oq1) kv_L_166 ⟨rfl, rfl, Nat.le_of_ble_eq_true rfl, Nat.le_of_ble_eq_true rfl⟩ ⟨Nat.le_of_ble_eq_true rfl, Nat.le_of_ble_eq_true rfl⟩ hK hN hZ hP hD hS hA [0, 10] [1, 2, 3, 4, 5, 6, 7, 8, 9, 11, 12, 13, 14, 15, 16] rfl rfl rfl rfl (by decide) 0 rfl rfl rfl rfl hl.1 rfl (Nat.le_of_ble_eq_true rfl) dL_law_1305 (fun r_17 u_r_17 H locs hw_r_17 hP hD hS => ?_)
      obtain ⟨f2_18, rfl⟩ : ∃ z, z = u_r_17 := ⟨_, rfl⟩
      try dsimp only at hw_r_17
      have hP : va_P D vwCl ([(qz, .inl (cS, 4, .inr (.inr (.inr (.inr (xSh s0 s1 s2 s3)))))), (s0, .inr (4, [.int bt0, .int (nI (sz0)), .ref sn0])), (s1, .inr (4, [.int bt1, .int (nI (sz1)), .ref sn1])), (s2, .inr (4, [.int bt2, .int (nI (sz2)), .ref sn2])), (s3, .inr (4, [.int bt3, .int (nI (sz3)), .ref sn3])), (sn0, .inl (cJ, 40, .inr (.inl nu0))), (sn1, .inl (cJ, 40, .inr (.inl nu1))), (sn2, .inl (cJ, 40, .inr (.inl nu2))), (sn3, .inl (cJ, 40, .inr (.inl nu3))), (g0, .inr (9, [.ref m_ys, .ref m_yk, .ref m_yo, .ref m_yt, .int b0, .ref m_yfa, .ref m_yfe, .int m_mL, .int m_mS, .int m_mM, .ref m_yro, .ref m_yhe, .ref m_ygr, .int m_mF, .int m_mC, .int m_mY, .ref m_yta, .int (nI (z)), .int (nI (m_mf)), .int (nI (m_mt)), .int m_mv, .int m_mw, .ref m_ywa, .ref m_ybi, .ref m_ysi, .ref m_ynu, .ref m_ymo])), (m_yt, .inl (cI, 7, .inl m_mq)), (m_ybi, .inl (cI, 4, .inl m_bi)), (m_ysi, .inl (cI, 4, .inl m_sq)), (m_ynu, .inl (cJ, 160, .inr (.inl m_nb))), (m_ymo, .inl (cJ, 40, .inr (.inl m_mv9))), (h0, .inr (8, [.ref qh, .ref qk, .ref qd, .int b0, .ref qa, .ref qm, .ref qs, .ref qp, .ref ql, .ref qt, .ref qz, .ref qf])), (qf, .inl (cI, 7, .inl f2_18))] ++ tl) H := hP
      have hD : va_D A ([(qz, .inl (cS, 4, .inr (.inr (.inr (.inr (xSh s0 s1 s2 s3)))))), (s0, .inr (4, [.int bt0, .int (nI (sz0)), .ref sn0])), (s1, .inr (4, [.int bt1, .int (nI (sz1)), .ref sn1])), (s2, .inr (4, [.int bt2, .int (nI (sz2)), .ref sn2])), (s3, .inr (4, [.int bt3, .int (nI (sz3)), .ref sn3])), (sn0, .inl (cJ, 40, .inr (.inl nu0))), (sn1, .inl (cJ, 40, .inr (.inl nu1))), (sn2, .inl (cJ, 40, .inr (.inl nu2))), (sn3, .inl (cJ, 40, .inr (.inl nu3))), (g0, .inr (9, [.ref m_ys, .ref m_yk, .ref m_yo, .ref m_yt, .int b0, .ref m_yfa, .ref m_yfe, .int m_mL, .int m_mS, .int m_mM, .ref m_yro, .ref m_yhe, .ref m_ygr, .int m_mF, .int m_mC, .int m_mY, .ref m_yta, .int (nI (z)), .int (nI (m_mf)), .int (nI (m_mt)), .int m_mv, .int m_mw, .ref m_ywa, .ref m_ybi, .ref m_ysi, .ref m_ynu, .ref m_ymo])), (m_yt, .inl (cI, 7, .inl m_mq)), (m_ybi, .inl (cI, 4, .inl m_bi)), (m_ysi, .inl (cI, 4, .inl m_sq)), (m_ynu, .inl (cJ, 160, .inr (.inl m_nb))), (m_ymo, .inl (cJ, 40, .inr (.inl m_mv9))), (h0, .inr (8, [.ref qh, .ref qk, .ref qd, .int b0, .ref qa, .ref qm, .ref qs, .ref qp, .ref ql, .ref qt, .ref qz, .ref qf])), (qf, .inl (cI, 7, .inl f2_18))] ++ tl) := hD
      subst hw_r_17
      refine lv_pop hx hb dL_law_1308 rfl ?_
      refine lv_aload_n hx hb dL_law_1309 rfl (lv_at hl 1 rfl) ?_
      refine lv_aload_n hx hb dL_law_1310 rfl (lv_at hl 3 rfl) ?_
      refine lv_iload_n hx hb dL_law_1311 rfl (lv_at hl 0 rfl) ?_
      refine lv_iconst (v := 1) hx hb dL_law_1312 (by decide) ?_
      refine lv_iadd hx hb dL_law_1313 ?_
      refine xl_i (y := nI (i + 1)) (nI_add i 1) ?_
      refine va_sld hx hb hX hbl hbA hS (x_si (k := 1) (by decide) hi hL) dL_law_1314 ?_
      refine xl_i (y := xs (i + 1)) (congrArg xs (x_sc (k := 1) (by decide) hi hL)) ?_
      refine lv_aload_n hx hb dL_law_1315 rfl (lv_at hl 3 rfl) ?_
      refine lv_iload_n hx hb dL_law_1316 rfl (lv_at hl 0 rfl) ?_
      refine lv_iconst (v := 2) hx hb dL_law_1317 (by decide) ?_
      refine lv_iadd hx hb dL_law_1318 ?_
      refine xl_i (y := nI (i + 2)) (nI_add i 2) ?_
      refine va_sld hx hb hX hbl hbA hS (x_si (k := 2) (by decide) hi hL) dL_law_1319 ?_
      refine xl_i (y := xs (i + 2)) (congrArg xs (x_sc (k := 2) (by decide) hi hL)) ?_
      refine lv_aload_n hx hb dL_law_1320 rfl (lv_at hl 3 rfl) ?_
      refine lv_iload_n hx hb dL_law_1321 rfl (lv_at hl 0 rfl) ?_
      refine lv_iconst (v := 3) hx hb dL_law_1322 (by decide) ?_
      refine lv_iadd hx hb dL_law_1323 ?_
      refine xl_i (y := nI (i + 3)) (nI_add i 3) ?_
      refine va_sld hx hb hX hbl hbA hS (x_si (k := 3) (by decide) hi hL) dL_law_1324 ?_
      refine xl_i (y := xs (i + 3)) (congrArg xs (x_sc (k := 3) (by decide) hi hL)) ?_
      refine xl_i (y := 3) eq3 ?_
      refine lv_aload_n hx hb dL_law_1325 rfl (lv_at hl 3 rfl) ?_
      refine lv_iload_n hx hb dL_law_1326 rfl (lv_at hl 0 rfl) ?_
      refine lv_iconst (v := 4) hx hb dL_law_1327 (by decide) ?_
      refine lv_iadd hx hb dL_law_1328 ?_
      refine xl_i (y := nI (i + 4)) (nI_add i 4) ?_
      refine va_sld hx hb hX hbl hbA hS (x_si (k := 4) (by decide) hi hL) dL_law_1329 ?_
      refine xl_i (y := xs (i + 4)) (congrArg xs (x_sc (k := 4) (by decide) hi hL)) ?_
      refine lv_aload_n hx hb dL_law_1330 rfl (lv_at hl 3 rfl) ?_
      refine lv_iload_n hx hb dL_law_1331 rfl (lv_at hl 0 rfl) ?_
      refine lv_iconst (v := 5) hx hb dL_law_1332 (by decide) ?_
      refine lv_iadd hx hb dL_law_1333 ?_
      refine xl_i (y := nI (i + 5)) (nI_add i 5) ?_
      refine va_sld hx hb hX hbl hbA hS (x_si (k := 5) (by decide) hi hL) dL_law_1334 ?_
      refine xl_i (y := xs (i + 5)) (congrArg xs (x_sc (k := 5) (by decide) hi hL)) ?_
      refine xc_ViT (wr := [(qz, .inl (cS, 4, .inr (.inr (.inr (.inr (xSh s0 s1 s2 s3)))))), (s0, .inr (4, [.int bt0, .int (nI (sz0)), .ref sn0])), (s1, .inr (4, [.int bt1, .int (nI (sz1)), .ref sn1])), (s2, .inr (4, [.int bt2, .int (nI (sz2)), .ref sn2])), (s3, .inr (4, [.int bt3, .int (nI (sz3)), .ref sn3])), (sn0, .inl (cJ, 40, .inr (.inl nu0))), (sn1, .inl (cJ, 40, .inr (.inl nu1))), (sn2, .inl (cJ, 40, .inr (.inl nu2))), (sn3, .inl (cJ, 40, .inr (.inl nu3))), (m_ybi, .inl (cI, 4, .inl m_bi)), (m_ysi, .inl (cI, 4, .inl m_sq)), (m_ynu, .inl (cJ, 160, .inr (.inl m_nb))), (m_ymo, .inl (cJ, 40, .inr (.inl m_mv9))), (h0, .inr (8, [.ref qh, .ref qk, .ref qd, .int b0, .ref qa, .ref qm, .ref qs, .ref qp, .ref ql, .ref qt, .ref qz, .ref qf])), (qf, .inl (cI, 7, .inl f2_18))]) hF (c_X9_copy_o l D cI cJ cZ cS ta sa sv H.size g0 m_ys m_yk m_yo m_yt b0 m_yfa m_yfe m_mL m_mS m_mM m_yro m_yhe m_ygr m_mF m_mC m_mY m_yta z m_mf m_mt m_mv m_mw m_ywa m_ybi m_ysi m_ynu m_ymo m_mq (xs (i + 1)) (xs (i + 2)) 3 (xs (i + 4)) (xs (i + 5)) oq1) kv_L_170 ⟨rfl, rfl, Nat.le_of_ble_eq_true rfl, Nat.le_of_ble_eq_true rfl⟩ ⟨Nat.le_of_ble_eq_true rfl, Nat.le_of_ble_eq_true rfl⟩ hK hN hZ hP hD hS hA [9, 10] [0, 1, 2, 3, 4, 5, 6, 7, 8, 11, 12, 13, 14, 15, 16] rfl rfl rfl rfl (by decide) 0 rfl rfl rfl rfl hl.1 rfl (Nat.le_of_ble_eq_true rfl) dL_law_1335 (fun r_19 u_r_19 H locs hw_r_19 hP hD hS => ?_)
      obtain ⟨mq2_20, rfl⟩ : ∃ z, z = u_r_19 := ⟨_, rfl⟩
      try dsimp only at hw_r_19
      have hP : va_P D vwCl ([(qz, .inl (cS, 4, .inr (.inr (.inr (.inr (xSh s0 s1 s2 s3)))))), (s0, .inr (4, [.int bt0, .int (nI (sz0)), .ref sn0])), (s1, .inr (4, [.int bt1, .int (nI (sz1)), .ref sn1])), (s2, .inr (4, [.int bt2, .int (nI (sz2)), .ref sn2])), (s3, .inr (4, [.int bt3, .int (nI (sz3)), .ref sn3])), (sn0, .inl (cJ, 40, .inr (.inl nu0))), (sn1, .inl (cJ, 40, .inr (.inl nu1))), (sn2, .inl (cJ, 40, .inr (.inl nu2))), (sn3, .inl (cJ, 40, .inr (.inl nu3))), (m_ybi, .inl (cI, 4, .inl m_bi)), (m_ysi, .inl (cI, 4, .inl m_sq)), (m_ynu, .inl (cJ, 160, .inr (.inl m_nb))), (m_ymo, .inl (cJ, 40, .inr (.inl m_mv9))), (h0, .inr (8, [.ref qh, .ref qk, .ref qd, .int b0, .ref qa, .ref qm, .ref qs, .ref qp, .ref ql, .ref qt, .ref qz, .ref qf])), (qf, .inl (cI, 7, .inl f2_18)), (g0, .inr (9, [.ref m_ys, .ref m_yk, .ref m_yo, .ref m_yt, .int b0, .ref m_yfa, .ref m_yfe, .int m_mL, .int m_mS, .int m_mM, .ref m_yro, .ref m_yhe, .ref m_ygr, .int m_mF, .int m_mC, .int m_mY, .ref m_yta, .int (nI (z)), .int (nI (m_mf)), .int (nI (m_mt)), .int m_mv, .int m_mw, .ref m_ywa, .ref m_ybi, .ref m_ysi, .ref m_ynu, .ref m_ymo])), (m_yt, .inl (cI, 7, .inl mq2_20))] ++ tl) H := hP
      have hD : va_D A ([(qz, .inl (cS, 4, .inr (.inr (.inr (.inr (xSh s0 s1 s2 s3)))))), (s0, .inr (4, [.int bt0, .int (nI (sz0)), .ref sn0])), (s1, .inr (4, [.int bt1, .int (nI (sz1)), .ref sn1])), (s2, .inr (4, [.int bt2, .int (nI (sz2)), .ref sn2])), (s3, .inr (4, [.int bt3, .int (nI (sz3)), .ref sn3])), (sn0, .inl (cJ, 40, .inr (.inl nu0))), (sn1, .inl (cJ, 40, .inr (.inl nu1))), (sn2, .inl (cJ, 40, .inr (.inl nu2))), (sn3, .inl (cJ, 40, .inr (.inl nu3))), (m_ybi, .inl (cI, 4, .inl m_bi)), (m_ysi, .inl (cI, 4, .inl m_sq)), (m_ynu, .inl (cJ, 160, .inr (.inl m_nb))), (m_ymo, .inl (cJ, 40, .inr (.inl m_mv9))), (h0, .inr (8, [.ref qh, .ref qk, .ref qd, .int b0, .ref qa, .ref qm, .ref qs, .ref qp, .ref ql, .ref qt, .ref qz, .ref qf])), (qf, .inl (cI, 7, .inl f2_18)), (g0, .inr (9, [.ref m_ys, .ref m_yk, .ref m_yo, .ref m_yt, .int b0, .ref m_yfa, .ref m_yfe, .int m_mL, .int m_mS, .int m_mM, .ref m_yro, .ref m_yhe, .ref m_ygr, .int m_mF, .int m_mC, .int m_mY, .ref m_yta, .int (nI (z)), .int (nI (m_mf)), .int (nI (m_mt)), .int m_mv, .int m_mw, .ref m_ywa, .ref m_ybi, .ref m_ysi, .ref m_ynu, .ref m_ymo])), (m_yt, .inl (cI, 7, .inl mq2_20))] ++ tl) := hD
      subst hw_r_19
      refine lv_pop hx hb dL_law_1338 rfl ?_
      refine lv_goto (tgt := 1483) hx hb dL_law_1339 (by decide) ?_
      exact kkx _ _ _ nu0 nu1 nu2 nu3 f2_18 mq2_20 m_nb m_mv9 (xt_P hP [13, 0, 1, 2, 3, 4, 5, 6, 7, 8, 14, 15, 16, 9, 10, 11, 12] rfl) (xt_D hD [13, 0, 1, 2, 3, 4, 5, 6, 7, 8, 14, 15, 16, 9, 10, 11, 12] (by decide +kernel) rfl) r_n0 r_n1 r_n2 r_n3 hS hl
  · skip
    refine lv_aload_n hx hb dL_law_1279 rfl (lv_at hl 2 rfl) ?_
    rcases x_sh4 (xs (i + 3)) with oq3 | eq3 | eq3 | eq3 | eq3
    · skip
      refine lv_aload_n hx hb dL_law_1280 rfl (lv_at hl 3 rfl) ?_
      refine lv_iload_n hx hb dL_law_1281 rfl (lv_at hl 0 rfl) ?_
      refine lv_iconst (v := 1) hx hb dL_law_1282 (by decide) ?_
      refine lv_iadd hx hb dL_law_1283 ?_
      refine xl_i (y := nI (i + 1)) (nI_add i 1) ?_
      refine va_sld hx hb hX hbl hbA hS (x_si (k := 1) (by decide) hi hL) dL_law_1284 ?_
      refine xl_i (y := xs (i + 1)) (congrArg xs (x_sc (k := 1) (by decide) hi hL)) ?_
      refine xl_i (y := 0) eq1 ?_
      refine lv_aload_n hx hb dL_law_1285 rfl (lv_at hl 3 rfl) ?_
      refine lv_iload_n hx hb dL_law_1286 rfl (lv_at hl 0 rfl) ?_
      refine lv_iconst (v := 2) hx hb dL_law_1287 (by decide) ?_
      refine lv_iadd hx hb dL_law_1288 ?_
      refine xl_i (y := nI (i + 2)) (nI_add i 2) ?_
      refine va_sld hx hb hX hbl hbA hS (x_si (k := 2) (by decide) hi hL) dL_law_1289 ?_
      refine xl_i (y := xs (i + 2)) (congrArg xs (x_sc (k := 2) (by decide) hi hL)) ?_
      refine lv_aload_n hx hb dL_law_1290 rfl (lv_at hl 3 rfl) ?_
      refine lv_iload_n hx hb dL_law_1291 rfl (lv_at hl 0 rfl) ?_
      refine lv_iconst (v := 3) hx hb dL_law_1292 (by decide) ?_
      refine lv_iadd hx hb dL_law_1293 ?_
      refine xl_i (y := nI (i + 3)) (nI_add i 3) ?_
      refine va_sld hx hb hX hbl hbA hS (x_si (k := 3) (by decide) hi hL) dL_law_1294 ?_
      refine xl_i (y := xs (i + 3)) (congrArg xs (x_sc (k := 3) (by decide) hi hL)) ?_
      refine lv_aload_n hx hb dL_law_1295 rfl (lv_at hl 3 rfl) ?_
      refine lv_iload_n hx hb dL_law_1296 rfl (lv_at hl 0 rfl) ?_
      refine lv_iconst (v := 4) hx hb dL_law_1297 (by decide) ?_
      refine lv_iadd hx hb dL_law_1298 ?_
      refine xl_i (y := nI (i + 4)) (nI_add i 4) ?_
      refine va_sld hx hb hX hbl hbA hS (x_si (k := 4) (by decide) hi hL) dL_law_1299 ?_
      refine xl_i (y := xs (i + 4)) (congrArg xs (x_sc (k := 4) (by decide) hi hL)) ?_
      refine lv_aload_n hx hb dL_law_1300 rfl (lv_at hl 3 rfl) ?_
      refine lv_iload_n hx hb dL_law_1301 rfl (lv_at hl 0 rfl) ?_
      refine lv_iconst (v := 5) hx hb dL_law_1302 (by decide) ?_
      refine lv_iadd hx hb dL_law_1303 ?_
      refine xl_i (y := nI (i + 5)) (nI_add i 5) ?_
      refine va_sld hx hb hX hbl hbA hS (x_si (k := 5) (by decide) hi hL) dL_law_1304 ?_
      refine xl_i (y := xs (i + 5)) (congrArg xs (x_sc (k := 5) (by decide) hi hL)) ?_
      refine xc_ViT (wr := [(qz, .inl (cS, 4, .inr (.inr (.inr (.inr (xSh s0 s1 s2 s3)))))), (s0, .inr (4, [.int bt0, .int (nI (sz0)), .ref sn0])), (s1, .inr (4, [.int bt1, .int (nI (sz1)), .ref sn1])), (s2, .inr (4, [.int bt2, .int (nI (sz2)), .ref sn2])), (s3, .inr (4, [.int bt3, .int (nI (sz3)), .ref sn3])), (sn0, .inl (cJ, 40, .inr (.inl nu0))), (sn1, .inl (cJ, 40, .inr (.inl nu1))), (sn2, .inl (cJ, 40, .inr (.inl nu2))), (sn3, .inl (cJ, 40, .inr (.inl nu3))), (g0, .inr (9, [.ref m_ys, .ref m_yk, .ref m_yo, .ref m_yt, .int b0, .ref m_yfa, .ref m_yfe, .int m_mL, .int m_mS, .int m_mM, .ref m_yro, .ref m_yhe, .ref m_ygr, .int m_mF, .int m_mC, .int m_mY, .ref m_yta, .int (nI (z)), .int (nI (m_mf)), .int (nI (m_mt)), .int m_mv, .int m_mw, .ref m_ywa, .ref m_ybi, .ref m_ysi, .ref m_ynu, .ref m_ymo])), (m_yt, .inl (cI, 7, .inl m_mq)), (m_ybi, .inl (cI, 4, .inl m_bi)), (m_ysi, .inl (cI, 4, .inl m_sq)), (m_ynu, .inl (cJ, 160, .inr (.inl m_nb))), (m_ymo, .inl (cJ, 40, .inr (.inl m_mv9)))]) hF (c_X8_copy_0o l D cI cJ cZ cS ta sa sv H.size h0 qh qk qd b0 qa qm qs qp ql qt qz qf ff (xs (i + 2)) (xs (i + 3)) (xs (i + 4)) (xs (i + 5)) oq3) kv_L_166 ⟨rfl, rfl, Nat.le_of_ble_eq_true rfl, Nat.le_of_ble_eq_true rfl⟩ ⟨Nat.le_of_ble_eq_true rfl, Nat.le_of_ble_eq_true rfl⟩ hK hN hZ hP hD hS hA [0, 10] [1, 2, 3, 4, 5, 6, 7, 8, 9, 11, 12, 13, 14, 15, 16] rfl rfl rfl rfl (by decide) 0 rfl rfl rfl rfl hl.1 rfl (Nat.le_of_ble_eq_true rfl) dL_law_1305 (fun r_21 u_r_21 H locs hw_r_21 hP hD hS => ?_)
      obtain ⟨f2_22, rfl⟩ : ∃ z, z = u_r_21 := ⟨_, rfl⟩
      try dsimp only at hw_r_21
      have hP : va_P D vwCl ([(qz, .inl (cS, 4, .inr (.inr (.inr (.inr (xSh s0 s1 s2 s3)))))), (s0, .inr (4, [.int bt0, .int (nI (sz0)), .ref sn0])), (s1, .inr (4, [.int bt1, .int (nI (sz1)), .ref sn1])), (s2, .inr (4, [.int bt2, .int (nI (sz2)), .ref sn2])), (s3, .inr (4, [.int bt3, .int (nI (sz3)), .ref sn3])), (sn0, .inl (cJ, 40, .inr (.inl nu0))), (sn1, .inl (cJ, 40, .inr (.inl nu1))), (sn2, .inl (cJ, 40, .inr (.inl nu2))), (sn3, .inl (cJ, 40, .inr (.inl nu3))), (g0, .inr (9, [.ref m_ys, .ref m_yk, .ref m_yo, .ref m_yt, .int b0, .ref m_yfa, .ref m_yfe, .int m_mL, .int m_mS, .int m_mM, .ref m_yro, .ref m_yhe, .ref m_ygr, .int m_mF, .int m_mC, .int m_mY, .ref m_yta, .int (nI (z)), .int (nI (m_mf)), .int (nI (m_mt)), .int m_mv, .int m_mw, .ref m_ywa, .ref m_ybi, .ref m_ysi, .ref m_ynu, .ref m_ymo])), (m_yt, .inl (cI, 7, .inl m_mq)), (m_ybi, .inl (cI, 4, .inl m_bi)), (m_ysi, .inl (cI, 4, .inl m_sq)), (m_ynu, .inl (cJ, 160, .inr (.inl m_nb))), (m_ymo, .inl (cJ, 40, .inr (.inl m_mv9))), (h0, .inr (8, [.ref qh, .ref qk, .ref qd, .int b0, .ref qa, .ref qm, .ref qs, .ref qp, .ref ql, .ref qt, .ref qz, .ref qf])), (qf, .inl (cI, 7, .inl f2_22))] ++ tl) H := hP
      have hD : va_D A ([(qz, .inl (cS, 4, .inr (.inr (.inr (.inr (xSh s0 s1 s2 s3)))))), (s0, .inr (4, [.int bt0, .int (nI (sz0)), .ref sn0])), (s1, .inr (4, [.int bt1, .int (nI (sz1)), .ref sn1])), (s2, .inr (4, [.int bt2, .int (nI (sz2)), .ref sn2])), (s3, .inr (4, [.int bt3, .int (nI (sz3)), .ref sn3])), (sn0, .inl (cJ, 40, .inr (.inl nu0))), (sn1, .inl (cJ, 40, .inr (.inl nu1))), (sn2, .inl (cJ, 40, .inr (.inl nu2))), (sn3, .inl (cJ, 40, .inr (.inl nu3))), (g0, .inr (9, [.ref m_ys, .ref m_yk, .ref m_yo, .ref m_yt, .int b0, .ref m_yfa, .ref m_yfe, .int m_mL, .int m_mS, .int m_mM, .ref m_yro, .ref m_yhe, .ref m_ygr, .int m_mF, .int m_mC, .int m_mY, .ref m_yta, .int (nI (z)), .int (nI (m_mf)), .int (nI (m_mt)), .int m_mv, .int m_mw, .ref m_ywa, .ref m_ybi, .ref m_ysi, .ref m_ynu, .ref m_ymo])), (m_yt, .inl (cI, 7, .inl m_mq)), (m_ybi, .inl (cI, 4, .inl m_bi)), (m_ysi, .inl (cI, 4, .inl m_sq)), (m_ynu, .inl (cJ, 160, .inr (.inl m_nb))), (m_ymo, .inl (cJ, 40, .inr (.inl m_mv9))), (h0, .inr (8, [.ref qh, .ref qk, .ref qd, .int b0, .ref qa, .ref qm, .ref qs, .ref qp, .ref ql, .ref qt, .ref qz, .ref qf])), (qf, .inl (cI, 7, .inl f2_22))] ++ tl) := hD
      subst hw_r_21
      refine lv_pop hx hb dL_law_1308 rfl ?_
      refine lv_aload_n hx hb dL_law_1309 rfl (lv_at hl 1 rfl) ?_
      refine lv_aload_n hx hb dL_law_1310 rfl (lv_at hl 3 rfl) ?_
      refine lv_iload_n hx hb dL_law_1311 rfl (lv_at hl 0 rfl) ?_
      refine lv_iconst (v := 1) hx hb dL_law_1312 (by decide) ?_
      refine lv_iadd hx hb dL_law_1313 ?_
      refine xl_i (y := nI (i + 1)) (nI_add i 1) ?_
      refine va_sld hx hb hX hbl hbA hS (x_si (k := 1) (by decide) hi hL) dL_law_1314 ?_
      refine xl_i (y := xs (i + 1)) (congrArg xs (x_sc (k := 1) (by decide) hi hL)) ?_
      refine xl_i (y := 0) eq1 ?_
      refine lv_aload_n hx hb dL_law_1315 rfl (lv_at hl 3 rfl) ?_
      refine lv_iload_n hx hb dL_law_1316 rfl (lv_at hl 0 rfl) ?_
      refine lv_iconst (v := 2) hx hb dL_law_1317 (by decide) ?_
      refine lv_iadd hx hb dL_law_1318 ?_
      refine xl_i (y := nI (i + 2)) (nI_add i 2) ?_
      refine va_sld hx hb hX hbl hbA hS (x_si (k := 2) (by decide) hi hL) dL_law_1319 ?_
      refine xl_i (y := xs (i + 2)) (congrArg xs (x_sc (k := 2) (by decide) hi hL)) ?_
      refine lv_aload_n hx hb dL_law_1320 rfl (lv_at hl 3 rfl) ?_
      refine lv_iload_n hx hb dL_law_1321 rfl (lv_at hl 0 rfl) ?_
      refine lv_iconst (v := 3) hx hb dL_law_1322 (by decide) ?_
      refine lv_iadd hx hb dL_law_1323 ?_
      refine xl_i (y := nI (i + 3)) (nI_add i 3) ?_
      refine va_sld hx hb hX hbl hbA hS (x_si (k := 3) (by decide) hi hL) dL_law_1324 ?_
      refine xl_i (y := xs (i + 3)) (congrArg xs (x_sc (k := 3) (by decide) hi hL)) ?_
      refine lv_aload_n hx hb dL_law_1325 rfl (lv_at hl 3 rfl) ?_
      refine lv_iload_n hx hb dL_law_1326 rfl (lv_at hl 0 rfl) ?_
      refine lv_iconst (v := 4) hx hb dL_law_1327 (by decide) ?_
      refine lv_iadd hx hb dL_law_1328 ?_
      refine xl_i (y := nI (i + 4)) (nI_add i 4) ?_
      refine va_sld hx hb hX hbl hbA hS (x_si (k := 4) (by decide) hi hL) dL_law_1329 ?_
      refine xl_i (y := xs (i + 4)) (congrArg xs (x_sc (k := 4) (by decide) hi hL)) ?_
      refine lv_aload_n hx hb dL_law_1330 rfl (lv_at hl 3 rfl) ?_
      refine lv_iload_n hx hb dL_law_1331 rfl (lv_at hl 0 rfl) ?_
      refine lv_iconst (v := 5) hx hb dL_law_1332 (by decide) ?_
      refine lv_iadd hx hb dL_law_1333 ?_
      refine xl_i (y := nI (i + 5)) (nI_add i 5) ?_
      refine va_sld hx hb hX hbl hbA hS (x_si (k := 5) (by decide) hi hL) dL_law_1334 ?_
      refine xl_i (y := xs (i + 5)) (congrArg xs (x_sc (k := 5) (by decide) hi hL)) ?_
      refine xc_ViT (wr := [(qz, .inl (cS, 4, .inr (.inr (.inr (.inr (xSh s0 s1 s2 s3)))))), (s0, .inr (4, [.int bt0, .int (nI (sz0)), .ref sn0])), (s1, .inr (4, [.int bt1, .int (nI (sz1)), .ref sn1])), (s2, .inr (4, [.int bt2, .int (nI (sz2)), .ref sn2])), (s3, .inr (4, [.int bt3, .int (nI (sz3)), .ref sn3])), (sn0, .inl (cJ, 40, .inr (.inl nu0))), (sn1, .inl (cJ, 40, .inr (.inl nu1))), (sn2, .inl (cJ, 40, .inr (.inl nu2))), (sn3, .inl (cJ, 40, .inr (.inl nu3))), (m_ybi, .inl (cI, 4, .inl m_bi)), (m_ysi, .inl (cI, 4, .inl m_sq)), (m_ynu, .inl (cJ, 160, .inr (.inl m_nb))), (m_ymo, .inl (cJ, 40, .inr (.inl m_mv9))), (h0, .inr (8, [.ref qh, .ref qk, .ref qd, .int b0, .ref qa, .ref qm, .ref qs, .ref qp, .ref ql, .ref qt, .ref qz, .ref qf])), (qf, .inl (cI, 7, .inl f2_22))]) hF (c_X9_copy_0o l D cI cJ cZ cS ta sa sv H.size g0 m_ys m_yk m_yo m_yt b0 m_yfa m_yfe m_mL m_mS m_mM m_yro m_yhe m_ygr m_mF m_mC m_mY m_yta z m_mf m_mt m_mv m_mw m_ywa m_ybi m_ysi m_ynu m_ymo m_mq (xs (i + 2)) (xs (i + 3)) (xs (i + 4)) (xs (i + 5)) oq3) kv_L_170 ⟨rfl, rfl, Nat.le_of_ble_eq_true rfl, Nat.le_of_ble_eq_true rfl⟩ ⟨Nat.le_of_ble_eq_true rfl, Nat.le_of_ble_eq_true rfl⟩ hK hN hZ hP hD hS hA [9, 10] [0, 1, 2, 3, 4, 5, 6, 7, 8, 11, 12, 13, 14, 15, 16] rfl rfl rfl rfl (by decide) 0 rfl rfl rfl rfl hl.1 rfl (Nat.le_of_ble_eq_true rfl) dL_law_1335 (fun r_23 u_r_23 H locs hw_r_23 hP hD hS => ?_)
      obtain ⟨mq2_24, rfl⟩ : ∃ z, z = u_r_23 := ⟨_, rfl⟩
      try dsimp only at hw_r_23
      have hP : va_P D vwCl ([(qz, .inl (cS, 4, .inr (.inr (.inr (.inr (xSh s0 s1 s2 s3)))))), (s0, .inr (4, [.int bt0, .int (nI (sz0)), .ref sn0])), (s1, .inr (4, [.int bt1, .int (nI (sz1)), .ref sn1])), (s2, .inr (4, [.int bt2, .int (nI (sz2)), .ref sn2])), (s3, .inr (4, [.int bt3, .int (nI (sz3)), .ref sn3])), (sn0, .inl (cJ, 40, .inr (.inl nu0))), (sn1, .inl (cJ, 40, .inr (.inl nu1))), (sn2, .inl (cJ, 40, .inr (.inl nu2))), (sn3, .inl (cJ, 40, .inr (.inl nu3))), (m_ybi, .inl (cI, 4, .inl m_bi)), (m_ysi, .inl (cI, 4, .inl m_sq)), (m_ynu, .inl (cJ, 160, .inr (.inl m_nb))), (m_ymo, .inl (cJ, 40, .inr (.inl m_mv9))), (h0, .inr (8, [.ref qh, .ref qk, .ref qd, .int b0, .ref qa, .ref qm, .ref qs, .ref qp, .ref ql, .ref qt, .ref qz, .ref qf])), (qf, .inl (cI, 7, .inl f2_22)), (g0, .inr (9, [.ref m_ys, .ref m_yk, .ref m_yo, .ref m_yt, .int b0, .ref m_yfa, .ref m_yfe, .int m_mL, .int m_mS, .int m_mM, .ref m_yro, .ref m_yhe, .ref m_ygr, .int m_mF, .int m_mC, .int m_mY, .ref m_yta, .int (nI (z)), .int (nI (m_mf)), .int (nI (m_mt)), .int m_mv, .int m_mw, .ref m_ywa, .ref m_ybi, .ref m_ysi, .ref m_ynu, .ref m_ymo])), (m_yt, .inl (cI, 7, .inl mq2_24))] ++ tl) H := hP
      have hD : va_D A ([(qz, .inl (cS, 4, .inr (.inr (.inr (.inr (xSh s0 s1 s2 s3)))))), (s0, .inr (4, [.int bt0, .int (nI (sz0)), .ref sn0])), (s1, .inr (4, [.int bt1, .int (nI (sz1)), .ref sn1])), (s2, .inr (4, [.int bt2, .int (nI (sz2)), .ref sn2])), (s3, .inr (4, [.int bt3, .int (nI (sz3)), .ref sn3])), (sn0, .inl (cJ, 40, .inr (.inl nu0))), (sn1, .inl (cJ, 40, .inr (.inl nu1))), (sn2, .inl (cJ, 40, .inr (.inl nu2))), (sn3, .inl (cJ, 40, .inr (.inl nu3))), (m_ybi, .inl (cI, 4, .inl m_bi)), (m_ysi, .inl (cI, 4, .inl m_sq)), (m_ynu, .inl (cJ, 160, .inr (.inl m_nb))), (m_ymo, .inl (cJ, 40, .inr (.inl m_mv9))), (h0, .inr (8, [.ref qh, .ref qk, .ref qd, .int b0, .ref qa, .ref qm, .ref qs, .ref qp, .ref ql, .ref qt, .ref qz, .ref qf])), (qf, .inl (cI, 7, .inl f2_22)), (g0, .inr (9, [.ref m_ys, .ref m_yk, .ref m_yo, .ref m_yt, .int b0, .ref m_yfa, .ref m_yfe, .int m_mL, .int m_mS, .int m_mM, .ref m_yro, .ref m_yhe, .ref m_ygr, .int m_mF, .int m_mC, .int m_mY, .ref m_yta, .int (nI (z)), .int (nI (m_mf)), .int (nI (m_mt)), .int m_mv, .int m_mw, .ref m_ywa, .ref m_ybi, .ref m_ysi, .ref m_ynu, .ref m_ymo])), (m_yt, .inl (cI, 7, .inl mq2_24))] ++ tl) := hD
      subst hw_r_23
      refine lv_pop hx hb dL_law_1338 rfl ?_
      refine lv_goto (tgt := 1483) hx hb dL_law_1339 (by decide) ?_
      exact kkx _ _ _ nu0 nu1 nu2 nu3 f2_22 mq2_24 m_nb m_mv9 (xt_P hP [13, 0, 1, 2, 3, 4, 5, 6, 7, 8, 14, 15, 16, 9, 10, 11, 12] rfl) (xt_D hD [13, 0, 1, 2, 3, 4, 5, 6, 7, 8, 14, 15, 16, 9, 10, 11, 12] (by decide +kernel) rfl) r_n0 r_n1 r_n2 r_n3 hS hl
    · skip
      refine lv_aload_n hx hb dL_law_1280 rfl (lv_at hl 3 rfl) ?_
      refine lv_iload_n hx hb dL_law_1281 rfl (lv_at hl 0 rfl) ?_
      refine lv_iconst (v := 1) hx hb dL_law_1282 (by decide) ?_
      refine lv_iadd hx hb dL_law_1283 ?_
      refine xl_i (y := nI (i + 1)) (nI_add i 1) ?_
      refine va_sld hx hb hX hbl hbA hS (x_si (k := 1) (by decide) hi hL) dL_law_1284 ?_
      refine xl_i (y := xs (i + 1)) (congrArg xs (x_sc (k := 1) (by decide) hi hL)) ?_
      refine xl_i (y := 0) eq1 ?_
      refine lv_aload_n hx hb dL_law_1285 rfl (lv_at hl 3 rfl) ?_
      refine lv_iload_n hx hb dL_law_1286 rfl (lv_at hl 0 rfl) ?_
      refine lv_iconst (v := 2) hx hb dL_law_1287 (by decide) ?_
      refine lv_iadd hx hb dL_law_1288 ?_
      refine xl_i (y := nI (i + 2)) (nI_add i 2) ?_
      refine va_sld hx hb hX hbl hbA hS (x_si (k := 2) (by decide) hi hL) dL_law_1289 ?_
      refine xl_i (y := xs (i + 2)) (congrArg xs (x_sc (k := 2) (by decide) hi hL)) ?_
      refine lv_aload_n hx hb dL_law_1290 rfl (lv_at hl 3 rfl) ?_
      refine lv_iload_n hx hb dL_law_1291 rfl (lv_at hl 0 rfl) ?_
      refine lv_iconst (v := 3) hx hb dL_law_1292 (by decide) ?_
      refine lv_iadd hx hb dL_law_1293 ?_
      refine xl_i (y := nI (i + 3)) (nI_add i 3) ?_
      refine va_sld hx hb hX hbl hbA hS (x_si (k := 3) (by decide) hi hL) dL_law_1294 ?_
      refine xl_i (y := xs (i + 3)) (congrArg xs (x_sc (k := 3) (by decide) hi hL)) ?_
      refine xl_i (y := 0) eq3 ?_
      refine lv_aload_n hx hb dL_law_1295 rfl (lv_at hl 3 rfl) ?_
      refine lv_iload_n hx hb dL_law_1296 rfl (lv_at hl 0 rfl) ?_
      refine lv_iconst (v := 4) hx hb dL_law_1297 (by decide) ?_
      refine lv_iadd hx hb dL_law_1298 ?_
      refine xl_i (y := nI (i + 4)) (nI_add i 4) ?_
      refine va_sld hx hb hX hbl hbA hS (x_si (k := 4) (by decide) hi hL) dL_law_1299 ?_
      refine xl_i (y := xs (i + 4)) (congrArg xs (x_sc (k := 4) (by decide) hi hL)) ?_
      refine lv_aload_n hx hb dL_law_1300 rfl (lv_at hl 3 rfl) ?_
      refine lv_iload_n hx hb dL_law_1301 rfl (lv_at hl 0 rfl) ?_
      refine lv_iconst (v := 5) hx hb dL_law_1302 (by decide) ?_
      refine lv_iadd hx hb dL_law_1303 ?_
      refine xl_i (y := nI (i + 5)) (nI_add i 5) ?_
      refine va_sld hx hb hX hbl hbA hS (x_si (k := 5) (by decide) hi hL) dL_law_1304 ?_
      refine xl_i (y := xs (i + 5)) (congrArg xs (x_sc (k := 5) (by decide) hi hL)) ?_
      refine xc_ViT (wr := [(g0, .inr (9, [.ref m_ys, .ref m_yk, .ref m_yo, .ref m_yt, .int b0, .ref m_yfa, .ref m_yfe, .int m_mL, .int m_mS, .int m_mM, .ref m_yro, .ref m_yhe, .ref m_ygr, .int m_mF, .int m_mC, .int m_mY, .ref m_yta, .int (nI (z)), .int (nI (m_mf)), .int (nI (m_mt)), .int m_mv, .int m_mw, .ref m_ywa, .ref m_ybi, .ref m_ysi, .ref m_ynu, .ref m_ymo])), (m_yt, .inl (cI, 7, .inl m_mq)), (m_ybi, .inl (cI, 4, .inl m_bi)), (m_ysi, .inl (cI, 4, .inl m_sq)), (m_ynu, .inl (cJ, 160, .inr (.inl m_nb))), (m_ymo, .inl (cJ, 40, .inr (.inl m_mv9)))]) hF (c_X8_copy_00 l D cI cJ cZ cS ta sa sv H.size h0 qh qk qd b0 qa qm qs qp ql qt qz qf s0 s1 s2 s3 bt0 sz0 sn0 bt1 sz1 sn1 bt2 sz2 sn2 bt3 sz3 sn3 nu0 nu1 nu2 nu3 ff (xs (i + 2)) (xs (i + 4)) (xs (i + 5)) hsz0 hsz1 hsz2 hsz3) kv_L_166 ⟨rfl, rfl, Nat.le_of_ble_eq_true rfl, Nat.le_of_ble_eq_true rfl⟩ ⟨Nat.le_of_ble_eq_true rfl, Nat.le_of_ble_eq_true rfl⟩ hK hN hZ hP hD hS hA [0, 1, 2, 3, 4, 5, 6, 7, 8, 9, 10] [11, 12, 13, 14, 15, 16] rfl rfl rfl rfl (by decide) 0 rfl rfl rfl rfl hl.1 rfl (Nat.le_of_ble_eq_true rfl) dL_law_1305 (fun r_25 u_r_25 H locs hw_r_25 hP hD hS => ?_)
      obtain ⟨nv_26, f2_27⟩ := u_r_25
      try dsimp only at hw_r_25
      obtain ⟨hw_r_25, i_28⟩ := hw_r_25
      have hP : va_P D vwCl ([(g0, .inr (9, [.ref m_ys, .ref m_yk, .ref m_yo, .ref m_yt, .int b0, .ref m_yfa, .ref m_yfe, .int m_mL, .int m_mS, .int m_mM, .ref m_yro, .ref m_yhe, .ref m_ygr, .int m_mF, .int m_mC, .int m_mY, .ref m_yta, .int (nI (z)), .int (nI (m_mf)), .int (nI (m_mt)), .int m_mv, .int m_mw, .ref m_ywa, .ref m_ybi, .ref m_ysi, .ref m_ynu, .ref m_ymo])), (m_yt, .inl (cI, 7, .inl m_mq)), (m_ybi, .inl (cI, 4, .inl m_bi)), (m_ysi, .inl (cI, 4, .inl m_sq)), (m_ynu, .inl (cJ, 160, .inr (.inl m_nb))), (m_ymo, .inl (cJ, 40, .inr (.inl m_mv9))), (h0, .inr (8, [.ref qh, .ref qk, .ref qd, .int b0, .ref qa, .ref qm, .ref qs, .ref qp, .ref ql, .ref qt, .ref qz, .ref qf])), (qz, .inl (cS, 4, .inr (.inr (.inr (.inr (xSh s0 s1 s2 s3)))))), (s0, .inr (4, [.int bt0, .int (nI (sz0)), .ref sn0])), (s1, .inr (4, [.int bt1, .int (nI (sz1)), .ref sn1])), (s2, .inr (4, [.int bt2, .int (nI (sz2)), .ref sn2])), (s3, .inr (4, [.int bt3, .int (nI (sz3)), .ref sn3])), (sn0, .inl (cJ, 40, .inr (.inl nv_26))), (sn1, .inl (cJ, 40, .inr (.inl nu1))), (sn2, .inl (cJ, 40, .inr (.inl nu2))), (sn3, .inl (cJ, 40, .inr (.inl nu3))), (qf, .inl (cI, 7, .inl f2_27))] ++ tl) H := hP
      have hD : va_D A ([(g0, .inr (9, [.ref m_ys, .ref m_yk, .ref m_yo, .ref m_yt, .int b0, .ref m_yfa, .ref m_yfe, .int m_mL, .int m_mS, .int m_mM, .ref m_yro, .ref m_yhe, .ref m_ygr, .int m_mF, .int m_mC, .int m_mY, .ref m_yta, .int (nI (z)), .int (nI (m_mf)), .int (nI (m_mt)), .int m_mv, .int m_mw, .ref m_ywa, .ref m_ybi, .ref m_ysi, .ref m_ynu, .ref m_ymo])), (m_yt, .inl (cI, 7, .inl m_mq)), (m_ybi, .inl (cI, 4, .inl m_bi)), (m_ysi, .inl (cI, 4, .inl m_sq)), (m_ynu, .inl (cJ, 160, .inr (.inl m_nb))), (m_ymo, .inl (cJ, 40, .inr (.inl m_mv9))), (h0, .inr (8, [.ref qh, .ref qk, .ref qd, .int b0, .ref qa, .ref qm, .ref qs, .ref qp, .ref ql, .ref qt, .ref qz, .ref qf])), (qz, .inl (cS, 4, .inr (.inr (.inr (.inr (xSh s0 s1 s2 s3)))))), (s0, .inr (4, [.int bt0, .int (nI (sz0)), .ref sn0])), (s1, .inr (4, [.int bt1, .int (nI (sz1)), .ref sn1])), (s2, .inr (4, [.int bt2, .int (nI (sz2)), .ref sn2])), (s3, .inr (4, [.int bt3, .int (nI (sz3)), .ref sn3])), (sn0, .inl (cJ, 40, .inr (.inl nv_26))), (sn1, .inl (cJ, 40, .inr (.inl nu1))), (sn2, .inl (cJ, 40, .inr (.inl nu2))), (sn3, .inl (cJ, 40, .inr (.inl nu3))), (qf, .inl (cI, 7, .inl f2_27))] ++ tl) := hD
      subst hw_r_25
      refine lv_pop hx hb dL_law_1308 rfl ?_
      refine lv_aload_n hx hb dL_law_1309 rfl (lv_at hl 1 rfl) ?_
      refine lv_aload_n hx hb dL_law_1310 rfl (lv_at hl 3 rfl) ?_
      refine lv_iload_n hx hb dL_law_1311 rfl (lv_at hl 0 rfl) ?_
      refine lv_iconst (v := 1) hx hb dL_law_1312 (by decide) ?_
      refine lv_iadd hx hb dL_law_1313 ?_
      refine xl_i (y := nI (i + 1)) (nI_add i 1) ?_
      refine va_sld hx hb hX hbl hbA hS (x_si (k := 1) (by decide) hi hL) dL_law_1314 ?_
      refine xl_i (y := xs (i + 1)) (congrArg xs (x_sc (k := 1) (by decide) hi hL)) ?_
      refine xl_i (y := 0) eq1 ?_
      refine lv_aload_n hx hb dL_law_1315 rfl (lv_at hl 3 rfl) ?_
      refine lv_iload_n hx hb dL_law_1316 rfl (lv_at hl 0 rfl) ?_
      refine lv_iconst (v := 2) hx hb dL_law_1317 (by decide) ?_
      refine lv_iadd hx hb dL_law_1318 ?_
      refine xl_i (y := nI (i + 2)) (nI_add i 2) ?_
      refine va_sld hx hb hX hbl hbA hS (x_si (k := 2) (by decide) hi hL) dL_law_1319 ?_
      refine xl_i (y := xs (i + 2)) (congrArg xs (x_sc (k := 2) (by decide) hi hL)) ?_
      refine lv_aload_n hx hb dL_law_1320 rfl (lv_at hl 3 rfl) ?_
      refine lv_iload_n hx hb dL_law_1321 rfl (lv_at hl 0 rfl) ?_
      refine lv_iconst (v := 3) hx hb dL_law_1322 (by decide) ?_
      refine lv_iadd hx hb dL_law_1323 ?_
      refine xl_i (y := nI (i + 3)) (nI_add i 3) ?_
      refine va_sld hx hb hX hbl hbA hS (x_si (k := 3) (by decide) hi hL) dL_law_1324 ?_
      refine xl_i (y := xs (i + 3)) (congrArg xs (x_sc (k := 3) (by decide) hi hL)) ?_
      refine xl_i (y := 0) eq3 ?_
      refine lv_aload_n hx hb dL_law_1325 rfl (lv_at hl 3 rfl) ?_
      refine lv_iload_n hx hb dL_law_1326 rfl (lv_at hl 0 rfl) ?_
      refine lv_iconst (v := 4) hx hb dL_law_1327 (by decide) ?_
      refine lv_iadd hx hb dL_law_1328 ?_
      refine xl_i (y := nI (i + 4)) (nI_add i 4) ?_
      refine va_sld hx hb hX hbl hbA hS (x_si (k := 4) (by decide) hi hL) dL_law_1329 ?_
      refine xl_i (y := xs (i + 4)) (congrArg xs (x_sc (k := 4) (by decide) hi hL)) ?_
      refine lv_aload_n hx hb dL_law_1330 rfl (lv_at hl 3 rfl) ?_
      refine lv_iload_n hx hb dL_law_1331 rfl (lv_at hl 0 rfl) ?_
      refine lv_iconst (v := 5) hx hb dL_law_1332 (by decide) ?_
      refine lv_iadd hx hb dL_law_1333 ?_
      refine xl_i (y := nI (i + 5)) (nI_add i 5) ?_
      refine va_sld hx hb hX hbl hbA hS (x_si (k := 5) (by decide) hi hL) dL_law_1334 ?_
      refine xl_i (y := xs (i + 5)) (congrArg xs (x_sc (k := 5) (by decide) hi hL)) ?_
      refine xc_ViT (wr := [(h0, .inr (8, [.ref qh, .ref qk, .ref qd, .int b0, .ref qa, .ref qm, .ref qs, .ref qp, .ref ql, .ref qt, .ref qz, .ref qf])), (qz, .inl (cS, 4, .inr (.inr (.inr (.inr (xSh s0 s1 s2 s3)))))), (s0, .inr (4, [.int bt0, .int (nI (sz0)), .ref sn0])), (s1, .inr (4, [.int bt1, .int (nI (sz1)), .ref sn1])), (s2, .inr (4, [.int bt2, .int (nI (sz2)), .ref sn2])), (s3, .inr (4, [.int bt3, .int (nI (sz3)), .ref sn3])), (sn0, .inl (cJ, 40, .inr (.inl nv_26))), (sn1, .inl (cJ, 40, .inr (.inl nu1))), (sn2, .inl (cJ, 40, .inr (.inl nu2))), (sn3, .inl (cJ, 40, .inr (.inl nu3))), (qf, .inl (cI, 7, .inl f2_27))]) hF (c_X9_copy_00 l D cI cJ cZ cS ta sa sv H.size g0 m_ys m_yk m_yo m_yt b0 m_yfa m_yfe m_mL m_mS m_mM m_yro m_yhe m_ygr m_mF m_mC m_mY m_yta z m_mf m_mt m_mv m_mw m_ywa m_ybi m_ysi m_ynu m_ymo m_bi m_sq m_nb m_mv9 m_mq (xs (i + 2)) (xs (i + 4)) (xs (i + 5)) sz0 sz0 r_z0 hsz0 r_z0 hsz0 m_hsq) kv_L_170 ⟨rfl, rfl, Nat.le_of_ble_eq_true rfl, Nat.le_of_ble_eq_true rfl⟩ ⟨Nat.le_of_ble_eq_true rfl, Nat.le_of_ble_eq_true rfl⟩ hK hN hZ hP hD hS hA [0, 2, 3, 4, 5, 1] [6, 7, 8, 9, 10, 11, 12, 13, 14, 15, 16] rfl rfl rfl rfl (by decide) 0 rfl rfl rfl rfl hl.1 rfl (Nat.le_of_ble_eq_true rfl) dL_law_1335 (fun r_29 u_r_29 H locs hw_r_29 hP hD hS => ?_)
      obtain ⟨nb2_30, mv2_31, mq2_32⟩ := u_r_29
      try dsimp only at hw_r_29
      obtain ⟨hw_r_29, i_33, i_34⟩ := hw_r_29
      have hP : va_P D vwCl ([(h0, .inr (8, [.ref qh, .ref qk, .ref qd, .int b0, .ref qa, .ref qm, .ref qs, .ref qp, .ref ql, .ref qt, .ref qz, .ref qf])), (qz, .inl (cS, 4, .inr (.inr (.inr (.inr (xSh s0 s1 s2 s3)))))), (s0, .inr (4, [.int bt0, .int (nI (sz0)), .ref sn0])), (s1, .inr (4, [.int bt1, .int (nI (sz1)), .ref sn1])), (s2, .inr (4, [.int bt2, .int (nI (sz2)), .ref sn2])), (s3, .inr (4, [.int bt3, .int (nI (sz3)), .ref sn3])), (sn0, .inl (cJ, 40, .inr (.inl nv_26))), (sn1, .inl (cJ, 40, .inr (.inl nu1))), (sn2, .inl (cJ, 40, .inr (.inl nu2))), (sn3, .inl (cJ, 40, .inr (.inl nu3))), (qf, .inl (cI, 7, .inl f2_27)), (g0, .inr (9, [.ref m_ys, .ref m_yk, .ref m_yo, .ref m_yt, .int b0, .ref m_yfa, .ref m_yfe, .int m_mL, .int m_mS, .int m_mM, .ref m_yro, .ref m_yhe, .ref m_ygr, .int m_mF, .int m_mC, .int m_mY, .ref m_yta, .int (nI (z)), .int (nI (m_mf)), .int (nI (m_mt)), .int m_mv, .int m_mw, .ref m_ywa, .ref m_ybi, .ref m_ysi, .ref m_ynu, .ref m_ymo])), (m_ybi, .inl (cI, 4, .inl m_bi)), (m_ysi, .inl (cI, 4, .inl m_sq)), (m_ynu, .inl (cJ, 160, .inr (.inl nb2_30))), (m_ymo, .inl (cJ, 40, .inr (.inl mv2_31))), (m_yt, .inl (cI, 7, .inl mq2_32))] ++ tl) H := hP
      have hD : va_D A ([(h0, .inr (8, [.ref qh, .ref qk, .ref qd, .int b0, .ref qa, .ref qm, .ref qs, .ref qp, .ref ql, .ref qt, .ref qz, .ref qf])), (qz, .inl (cS, 4, .inr (.inr (.inr (.inr (xSh s0 s1 s2 s3)))))), (s0, .inr (4, [.int bt0, .int (nI (sz0)), .ref sn0])), (s1, .inr (4, [.int bt1, .int (nI (sz1)), .ref sn1])), (s2, .inr (4, [.int bt2, .int (nI (sz2)), .ref sn2])), (s3, .inr (4, [.int bt3, .int (nI (sz3)), .ref sn3])), (sn0, .inl (cJ, 40, .inr (.inl nv_26))), (sn1, .inl (cJ, 40, .inr (.inl nu1))), (sn2, .inl (cJ, 40, .inr (.inl nu2))), (sn3, .inl (cJ, 40, .inr (.inl nu3))), (qf, .inl (cI, 7, .inl f2_27)), (g0, .inr (9, [.ref m_ys, .ref m_yk, .ref m_yo, .ref m_yt, .int b0, .ref m_yfa, .ref m_yfe, .int m_mL, .int m_mS, .int m_mM, .ref m_yro, .ref m_yhe, .ref m_ygr, .int m_mF, .int m_mC, .int m_mY, .ref m_yta, .int (nI (z)), .int (nI (m_mf)), .int (nI (m_mt)), .int m_mv, .int m_mw, .ref m_ywa, .ref m_ybi, .ref m_ysi, .ref m_ynu, .ref m_ymo])), (m_ybi, .inl (cI, 4, .inl m_bi)), (m_ysi, .inl (cI, 4, .inl m_sq)), (m_ynu, .inl (cJ, 160, .inr (.inl nb2_30))), (m_ymo, .inl (cJ, 40, .inr (.inl mv2_31))), (m_yt, .inl (cI, 7, .inl mq2_32))] ++ tl) := hD
      subst hw_r_29
      refine lv_pop hx hb dL_law_1338 rfl ?_
      refine lv_goto (tgt := 1483) hx hb dL_law_1339 (by decide) ?_
      exact kkx _ _ _ nv_26 nu1 nu2 nu3 f2_27 mq2_32 nb2_30 mv2_31 (xt_P hP [0, 1, 2, 3, 4, 5, 6, 7, 8, 9, 10, 11, 16, 12, 13, 14, 15] rfl) (xt_D hD [0, 1, 2, 3, 4, 5, 6, 7, 8, 9, 10, 11, 16, 12, 13, 14, 15] (by decide +kernel) rfl) (fun j hj => (i_33 j).trans ((sp_cneq r_b0 r_b0 r_n0 (by omega) (r_n0 j hj)).trans (i_28 j).symm)) (fun j hj => (i_34 (40 + j) (by omega)).trans (r_n1 j hj)) (fun j hj => (i_34 (80 + j) (by omega)).trans (r_n2 j hj)) (fun j hj => (i_34 (120 + j) (by omega)).trans (r_n3 j hj)) hS hl
    · skip
      refine lv_aload_n hx hb dL_law_1280 rfl (lv_at hl 3 rfl) ?_
      refine lv_iload_n hx hb dL_law_1281 rfl (lv_at hl 0 rfl) ?_
      refine lv_iconst (v := 1) hx hb dL_law_1282 (by decide) ?_
      refine lv_iadd hx hb dL_law_1283 ?_
      refine xl_i (y := nI (i + 1)) (nI_add i 1) ?_
      refine va_sld hx hb hX hbl hbA hS (x_si (k := 1) (by decide) hi hL) dL_law_1284 ?_
      refine xl_i (y := xs (i + 1)) (congrArg xs (x_sc (k := 1) (by decide) hi hL)) ?_
      refine xl_i (y := 0) eq1 ?_
      refine lv_aload_n hx hb dL_law_1285 rfl (lv_at hl 3 rfl) ?_
      refine lv_iload_n hx hb dL_law_1286 rfl (lv_at hl 0 rfl) ?_
      refine lv_iconst (v := 2) hx hb dL_law_1287 (by decide) ?_
      refine lv_iadd hx hb dL_law_1288 ?_
      refine xl_i (y := nI (i + 2)) (nI_add i 2) ?_
      refine va_sld hx hb hX hbl hbA hS (x_si (k := 2) (by decide) hi hL) dL_law_1289 ?_
      refine xl_i (y := xs (i + 2)) (congrArg xs (x_sc (k := 2) (by decide) hi hL)) ?_
      refine lv_aload_n hx hb dL_law_1290 rfl (lv_at hl 3 rfl) ?_
      refine lv_iload_n hx hb dL_law_1291 rfl (lv_at hl 0 rfl) ?_
      refine lv_iconst (v := 3) hx hb dL_law_1292 (by decide) ?_
      refine lv_iadd hx hb dL_law_1293 ?_
      refine xl_i (y := nI (i + 3)) (nI_add i 3) ?_
      refine va_sld hx hb hX hbl hbA hS (x_si (k := 3) (by decide) hi hL) dL_law_1294 ?_
      refine xl_i (y := xs (i + 3)) (congrArg xs (x_sc (k := 3) (by decide) hi hL)) ?_
      refine xl_i (y := 1) eq3 ?_
      refine lv_aload_n hx hb dL_law_1295 rfl (lv_at hl 3 rfl) ?_
      refine lv_iload_n hx hb dL_law_1296 rfl (lv_at hl 0 rfl) ?_
      refine lv_iconst (v := 4) hx hb dL_law_1297 (by decide) ?_
      refine lv_iadd hx hb dL_law_1298 ?_
      refine xl_i (y := nI (i + 4)) (nI_add i 4) ?_
      refine va_sld hx hb hX hbl hbA hS (x_si (k := 4) (by decide) hi hL) dL_law_1299 ?_
      refine xl_i (y := xs (i + 4)) (congrArg xs (x_sc (k := 4) (by decide) hi hL)) ?_
      refine lv_aload_n hx hb dL_law_1300 rfl (lv_at hl 3 rfl) ?_
      refine lv_iload_n hx hb dL_law_1301 rfl (lv_at hl 0 rfl) ?_
      refine lv_iconst (v := 5) hx hb dL_law_1302 (by decide) ?_
      refine lv_iadd hx hb dL_law_1303 ?_
      refine xl_i (y := nI (i + 5)) (nI_add i 5) ?_
      refine va_sld hx hb hX hbl hbA hS (x_si (k := 5) (by decide) hi hL) dL_law_1304 ?_
      refine xl_i (y := xs (i + 5)) (congrArg xs (x_sc (k := 5) (by decide) hi hL)) ?_
      refine xc_ViT (wr := [(g0, .inr (9, [.ref m_ys, .ref m_yk, .ref m_yo, .ref m_yt, .int b0, .ref m_yfa, .ref m_yfe, .int m_mL, .int m_mS, .int m_mM, .ref m_yro, .ref m_yhe, .ref m_ygr, .int m_mF, .int m_mC, .int m_mY, .ref m_yta, .int (nI (z)), .int (nI (m_mf)), .int (nI (m_mt)), .int m_mv, .int m_mw, .ref m_ywa, .ref m_ybi, .ref m_ysi, .ref m_ynu, .ref m_ymo])), (m_yt, .inl (cI, 7, .inl m_mq)), (m_ybi, .inl (cI, 4, .inl m_bi)), (m_ysi, .inl (cI, 4, .inl m_sq)), (m_ynu, .inl (cJ, 160, .inr (.inl m_nb))), (m_ymo, .inl (cJ, 40, .inr (.inl m_mv9)))]) hF (c_X8_copy_01 l D cI cJ cZ cS ta sa sv H.size h0 qh qk qd b0 qa qm qs qp ql qt qz qf s0 s1 s2 s3 bt0 sz0 sn0 bt1 sz1 sn1 bt2 sz2 sn2 bt3 sz3 sn3 nu0 nu1 nu2 nu3 ff (xs (i + 2)) (xs (i + 4)) (xs (i + 5)) hsz0 hsz1 hsz2 hsz3) kv_L_166 ⟨rfl, rfl, Nat.le_of_ble_eq_true rfl, Nat.le_of_ble_eq_true rfl⟩ ⟨Nat.le_of_ble_eq_true rfl, Nat.le_of_ble_eq_true rfl⟩ hK hN hZ hP hD hS hA [0, 1, 2, 3, 4, 5, 6, 7, 8, 9, 10] [11, 12, 13, 14, 15, 16] rfl rfl rfl rfl (by decide) 0 rfl rfl rfl rfl hl.1 rfl (Nat.le_of_ble_eq_true rfl) dL_law_1305 (fun r_35 u_r_35 H locs hw_r_35 hP hD hS => ?_)
      obtain ⟨nv_36, f2_37⟩ := u_r_35
      try dsimp only at hw_r_35
      obtain ⟨hw_r_35, i_38⟩ := hw_r_35
      have hP : va_P D vwCl ([(g0, .inr (9, [.ref m_ys, .ref m_yk, .ref m_yo, .ref m_yt, .int b0, .ref m_yfa, .ref m_yfe, .int m_mL, .int m_mS, .int m_mM, .ref m_yro, .ref m_yhe, .ref m_ygr, .int m_mF, .int m_mC, .int m_mY, .ref m_yta, .int (nI (z)), .int (nI (m_mf)), .int (nI (m_mt)), .int m_mv, .int m_mw, .ref m_ywa, .ref m_ybi, .ref m_ysi, .ref m_ynu, .ref m_ymo])), (m_yt, .inl (cI, 7, .inl m_mq)), (m_ybi, .inl (cI, 4, .inl m_bi)), (m_ysi, .inl (cI, 4, .inl m_sq)), (m_ynu, .inl (cJ, 160, .inr (.inl m_nb))), (m_ymo, .inl (cJ, 40, .inr (.inl m_mv9))), (h0, .inr (8, [.ref qh, .ref qk, .ref qd, .int b0, .ref qa, .ref qm, .ref qs, .ref qp, .ref ql, .ref qt, .ref qz, .ref qf])), (qz, .inl (cS, 4, .inr (.inr (.inr (.inr (xSh s0 s1 s2 s3)))))), (s0, .inr (4, [.int bt0, .int (nI (sz0)), .ref sn0])), (s1, .inr (4, [.int bt1, .int (nI (sz1)), .ref sn1])), (s2, .inr (4, [.int bt2, .int (nI (sz2)), .ref sn2])), (s3, .inr (4, [.int bt3, .int (nI (sz3)), .ref sn3])), (sn0, .inl (cJ, 40, .inr (.inl nu0))), (sn1, .inl (cJ, 40, .inr (.inl nv_36))), (sn2, .inl (cJ, 40, .inr (.inl nu2))), (sn3, .inl (cJ, 40, .inr (.inl nu3))), (qf, .inl (cI, 7, .inl f2_37))] ++ tl) H := hP
      have hD : va_D A ([(g0, .inr (9, [.ref m_ys, .ref m_yk, .ref m_yo, .ref m_yt, .int b0, .ref m_yfa, .ref m_yfe, .int m_mL, .int m_mS, .int m_mM, .ref m_yro, .ref m_yhe, .ref m_ygr, .int m_mF, .int m_mC, .int m_mY, .ref m_yta, .int (nI (z)), .int (nI (m_mf)), .int (nI (m_mt)), .int m_mv, .int m_mw, .ref m_ywa, .ref m_ybi, .ref m_ysi, .ref m_ynu, .ref m_ymo])), (m_yt, .inl (cI, 7, .inl m_mq)), (m_ybi, .inl (cI, 4, .inl m_bi)), (m_ysi, .inl (cI, 4, .inl m_sq)), (m_ynu, .inl (cJ, 160, .inr (.inl m_nb))), (m_ymo, .inl (cJ, 40, .inr (.inl m_mv9))), (h0, .inr (8, [.ref qh, .ref qk, .ref qd, .int b0, .ref qa, .ref qm, .ref qs, .ref qp, .ref ql, .ref qt, .ref qz, .ref qf])), (qz, .inl (cS, 4, .inr (.inr (.inr (.inr (xSh s0 s1 s2 s3)))))), (s0, .inr (4, [.int bt0, .int (nI (sz0)), .ref sn0])), (s1, .inr (4, [.int bt1, .int (nI (sz1)), .ref sn1])), (s2, .inr (4, [.int bt2, .int (nI (sz2)), .ref sn2])), (s3, .inr (4, [.int bt3, .int (nI (sz3)), .ref sn3])), (sn0, .inl (cJ, 40, .inr (.inl nu0))), (sn1, .inl (cJ, 40, .inr (.inl nv_36))), (sn2, .inl (cJ, 40, .inr (.inl nu2))), (sn3, .inl (cJ, 40, .inr (.inl nu3))), (qf, .inl (cI, 7, .inl f2_37))] ++ tl) := hD
      subst hw_r_35
      refine lv_pop hx hb dL_law_1308 rfl ?_
      refine lv_aload_n hx hb dL_law_1309 rfl (lv_at hl 1 rfl) ?_
      refine lv_aload_n hx hb dL_law_1310 rfl (lv_at hl 3 rfl) ?_
      refine lv_iload_n hx hb dL_law_1311 rfl (lv_at hl 0 rfl) ?_
      refine lv_iconst (v := 1) hx hb dL_law_1312 (by decide) ?_
      refine lv_iadd hx hb dL_law_1313 ?_
      refine xl_i (y := nI (i + 1)) (nI_add i 1) ?_
      refine va_sld hx hb hX hbl hbA hS (x_si (k := 1) (by decide) hi hL) dL_law_1314 ?_
      refine xl_i (y := xs (i + 1)) (congrArg xs (x_sc (k := 1) (by decide) hi hL)) ?_
      refine xl_i (y := 0) eq1 ?_
      refine lv_aload_n hx hb dL_law_1315 rfl (lv_at hl 3 rfl) ?_
      refine lv_iload_n hx hb dL_law_1316 rfl (lv_at hl 0 rfl) ?_
      refine lv_iconst (v := 2) hx hb dL_law_1317 (by decide) ?_
      refine lv_iadd hx hb dL_law_1318 ?_
      refine xl_i (y := nI (i + 2)) (nI_add i 2) ?_
      refine va_sld hx hb hX hbl hbA hS (x_si (k := 2) (by decide) hi hL) dL_law_1319 ?_
      refine xl_i (y := xs (i + 2)) (congrArg xs (x_sc (k := 2) (by decide) hi hL)) ?_
      refine lv_aload_n hx hb dL_law_1320 rfl (lv_at hl 3 rfl) ?_
      refine lv_iload_n hx hb dL_law_1321 rfl (lv_at hl 0 rfl) ?_
      refine lv_iconst (v := 3) hx hb dL_law_1322 (by decide) ?_
      refine lv_iadd hx hb dL_law_1323 ?_
      refine xl_i (y := nI (i + 3)) (nI_add i 3) ?_
      refine va_sld hx hb hX hbl hbA hS (x_si (k := 3) (by decide) hi hL) dL_law_1324 ?_
      refine xl_i (y := xs (i + 3)) (congrArg xs (x_sc (k := 3) (by decide) hi hL)) ?_
      refine xl_i (y := 1) eq3 ?_
      refine lv_aload_n hx hb dL_law_1325 rfl (lv_at hl 3 rfl) ?_
      refine lv_iload_n hx hb dL_law_1326 rfl (lv_at hl 0 rfl) ?_
      refine lv_iconst (v := 4) hx hb dL_law_1327 (by decide) ?_
      refine lv_iadd hx hb dL_law_1328 ?_
      refine xl_i (y := nI (i + 4)) (nI_add i 4) ?_
      refine va_sld hx hb hX hbl hbA hS (x_si (k := 4) (by decide) hi hL) dL_law_1329 ?_
      refine xl_i (y := xs (i + 4)) (congrArg xs (x_sc (k := 4) (by decide) hi hL)) ?_
      refine lv_aload_n hx hb dL_law_1330 rfl (lv_at hl 3 rfl) ?_
      refine lv_iload_n hx hb dL_law_1331 rfl (lv_at hl 0 rfl) ?_
      refine lv_iconst (v := 5) hx hb dL_law_1332 (by decide) ?_
      refine lv_iadd hx hb dL_law_1333 ?_
      refine xl_i (y := nI (i + 5)) (nI_add i 5) ?_
      refine va_sld hx hb hX hbl hbA hS (x_si (k := 5) (by decide) hi hL) dL_law_1334 ?_
      refine xl_i (y := xs (i + 5)) (congrArg xs (x_sc (k := 5) (by decide) hi hL)) ?_
      refine xc_ViT (wr := [(h0, .inr (8, [.ref qh, .ref qk, .ref qd, .int b0, .ref qa, .ref qm, .ref qs, .ref qp, .ref ql, .ref qt, .ref qz, .ref qf])), (qz, .inl (cS, 4, .inr (.inr (.inr (.inr (xSh s0 s1 s2 s3)))))), (s0, .inr (4, [.int bt0, .int (nI (sz0)), .ref sn0])), (s1, .inr (4, [.int bt1, .int (nI (sz1)), .ref sn1])), (s2, .inr (4, [.int bt2, .int (nI (sz2)), .ref sn2])), (s3, .inr (4, [.int bt3, .int (nI (sz3)), .ref sn3])), (sn0, .inl (cJ, 40, .inr (.inl nu0))), (sn1, .inl (cJ, 40, .inr (.inl nv_36))), (sn2, .inl (cJ, 40, .inr (.inl nu2))), (sn3, .inl (cJ, 40, .inr (.inl nu3))), (qf, .inl (cI, 7, .inl f2_37))]) hF (c_X9_copy_01 l D cI cJ cZ cS ta sa sv H.size g0 m_ys m_yk m_yo m_yt b0 m_yfa m_yfe m_mL m_mS m_mM m_yro m_yhe m_ygr m_mF m_mC m_mY m_yta z m_mf m_mt m_mv m_mw m_ywa m_ybi m_ysi m_ynu m_ymo m_bi m_sq m_nb m_mv9 m_mq (xs (i + 2)) (xs (i + 4)) (xs (i + 5)) sz0 sz1 r_z0 hsz0 r_z1 hsz1 m_hsq) kv_L_170 ⟨rfl, rfl, Nat.le_of_ble_eq_true rfl, Nat.le_of_ble_eq_true rfl⟩ ⟨Nat.le_of_ble_eq_true rfl, Nat.le_of_ble_eq_true rfl⟩ hK hN hZ hP hD hS hA [0, 2, 3, 4, 5, 1] [6, 7, 8, 9, 10, 11, 12, 13, 14, 15, 16] rfl rfl rfl rfl (by decide) 0 rfl rfl rfl rfl hl.1 rfl (Nat.le_of_ble_eq_true rfl) dL_law_1335 (fun r_39 u_r_39 H locs hw_r_39 hP hD hS => ?_)
      obtain ⟨nb2_40, mv2_41, mq2_42⟩ := u_r_39
      try dsimp only at hw_r_39
      obtain ⟨hw_r_39, i_43, i_44⟩ := hw_r_39
      have hP : va_P D vwCl ([(h0, .inr (8, [.ref qh, .ref qk, .ref qd, .int b0, .ref qa, .ref qm, .ref qs, .ref qp, .ref ql, .ref qt, .ref qz, .ref qf])), (qz, .inl (cS, 4, .inr (.inr (.inr (.inr (xSh s0 s1 s2 s3)))))), (s0, .inr (4, [.int bt0, .int (nI (sz0)), .ref sn0])), (s1, .inr (4, [.int bt1, .int (nI (sz1)), .ref sn1])), (s2, .inr (4, [.int bt2, .int (nI (sz2)), .ref sn2])), (s3, .inr (4, [.int bt3, .int (nI (sz3)), .ref sn3])), (sn0, .inl (cJ, 40, .inr (.inl nu0))), (sn1, .inl (cJ, 40, .inr (.inl nv_36))), (sn2, .inl (cJ, 40, .inr (.inl nu2))), (sn3, .inl (cJ, 40, .inr (.inl nu3))), (qf, .inl (cI, 7, .inl f2_37)), (g0, .inr (9, [.ref m_ys, .ref m_yk, .ref m_yo, .ref m_yt, .int b0, .ref m_yfa, .ref m_yfe, .int m_mL, .int m_mS, .int m_mM, .ref m_yro, .ref m_yhe, .ref m_ygr, .int m_mF, .int m_mC, .int m_mY, .ref m_yta, .int (nI (z)), .int (nI (m_mf)), .int (nI (m_mt)), .int m_mv, .int m_mw, .ref m_ywa, .ref m_ybi, .ref m_ysi, .ref m_ynu, .ref m_ymo])), (m_ybi, .inl (cI, 4, .inl m_bi)), (m_ysi, .inl (cI, 4, .inl m_sq)), (m_ynu, .inl (cJ, 160, .inr (.inl nb2_40))), (m_ymo, .inl (cJ, 40, .inr (.inl mv2_41))), (m_yt, .inl (cI, 7, .inl mq2_42))] ++ tl) H := hP
      have hD : va_D A ([(h0, .inr (8, [.ref qh, .ref qk, .ref qd, .int b0, .ref qa, .ref qm, .ref qs, .ref qp, .ref ql, .ref qt, .ref qz, .ref qf])), (qz, .inl (cS, 4, .inr (.inr (.inr (.inr (xSh s0 s1 s2 s3)))))), (s0, .inr (4, [.int bt0, .int (nI (sz0)), .ref sn0])), (s1, .inr (4, [.int bt1, .int (nI (sz1)), .ref sn1])), (s2, .inr (4, [.int bt2, .int (nI (sz2)), .ref sn2])), (s3, .inr (4, [.int bt3, .int (nI (sz3)), .ref sn3])), (sn0, .inl (cJ, 40, .inr (.inl nu0))), (sn1, .inl (cJ, 40, .inr (.inl nv_36))), (sn2, .inl (cJ, 40, .inr (.inl nu2))), (sn3, .inl (cJ, 40, .inr (.inl nu3))), (qf, .inl (cI, 7, .inl f2_37)), (g0, .inr (9, [.ref m_ys, .ref m_yk, .ref m_yo, .ref m_yt, .int b0, .ref m_yfa, .ref m_yfe, .int m_mL, .int m_mS, .int m_mM, .ref m_yro, .ref m_yhe, .ref m_ygr, .int m_mF, .int m_mC, .int m_mY, .ref m_yta, .int (nI (z)), .int (nI (m_mf)), .int (nI (m_mt)), .int m_mv, .int m_mw, .ref m_ywa, .ref m_ybi, .ref m_ysi, .ref m_ynu, .ref m_ymo])), (m_ybi, .inl (cI, 4, .inl m_bi)), (m_ysi, .inl (cI, 4, .inl m_sq)), (m_ynu, .inl (cJ, 160, .inr (.inl nb2_40))), (m_ymo, .inl (cJ, 40, .inr (.inl mv2_41))), (m_yt, .inl (cI, 7, .inl mq2_42))] ++ tl) := hD
      subst hw_r_39
      refine lv_pop hx hb dL_law_1338 rfl ?_
      refine lv_goto (tgt := 1483) hx hb dL_law_1339 (by decide) ?_
      exact kkx _ _ _ nu0 nv_36 nu2 nu3 f2_37 mq2_42 nb2_40 mv2_41 (xt_P hP [0, 1, 2, 3, 4, 5, 6, 7, 8, 9, 10, 11, 16, 12, 13, 14, 15] rfl) (xt_D hD [0, 1, 2, 3, 4, 5, 6, 7, 8, 9, 10, 11, 16, 12, 13, 14, 15] (by decide +kernel) rfl) (fun j hj => (i_44 (0 + j) (by omega)).trans (r_n0 j hj)) (fun j hj => (i_43 j).trans ((sp_cneq r_b0 r_b1 r_n0 (by omega) (r_n1 j hj)).trans (i_38 j).symm)) (fun j hj => (i_44 (80 + j) (by omega)).trans (r_n2 j hj)) (fun j hj => (i_44 (120 + j) (by omega)).trans (r_n3 j hj)) hS hl
    · skip
      refine lv_aload_n hx hb dL_law_1280 rfl (lv_at hl 3 rfl) ?_
      refine lv_iload_n hx hb dL_law_1281 rfl (lv_at hl 0 rfl) ?_
      refine lv_iconst (v := 1) hx hb dL_law_1282 (by decide) ?_
      refine lv_iadd hx hb dL_law_1283 ?_
      refine xl_i (y := nI (i + 1)) (nI_add i 1) ?_
      refine va_sld hx hb hX hbl hbA hS (x_si (k := 1) (by decide) hi hL) dL_law_1284 ?_
      refine xl_i (y := xs (i + 1)) (congrArg xs (x_sc (k := 1) (by decide) hi hL)) ?_
      refine xl_i (y := 0) eq1 ?_
      refine lv_aload_n hx hb dL_law_1285 rfl (lv_at hl 3 rfl) ?_
      refine lv_iload_n hx hb dL_law_1286 rfl (lv_at hl 0 rfl) ?_
      refine lv_iconst (v := 2) hx hb dL_law_1287 (by decide) ?_
      refine lv_iadd hx hb dL_law_1288 ?_
      refine xl_i (y := nI (i + 2)) (nI_add i 2) ?_
      refine va_sld hx hb hX hbl hbA hS (x_si (k := 2) (by decide) hi hL) dL_law_1289 ?_
      refine xl_i (y := xs (i + 2)) (congrArg xs (x_sc (k := 2) (by decide) hi hL)) ?_
      refine lv_aload_n hx hb dL_law_1290 rfl (lv_at hl 3 rfl) ?_
      refine lv_iload_n hx hb dL_law_1291 rfl (lv_at hl 0 rfl) ?_
      refine lv_iconst (v := 3) hx hb dL_law_1292 (by decide) ?_
      refine lv_iadd hx hb dL_law_1293 ?_
      refine xl_i (y := nI (i + 3)) (nI_add i 3) ?_
      refine va_sld hx hb hX hbl hbA hS (x_si (k := 3) (by decide) hi hL) dL_law_1294 ?_
      refine xl_i (y := xs (i + 3)) (congrArg xs (x_sc (k := 3) (by decide) hi hL)) ?_
      refine xl_i (y := 2) eq3 ?_
      refine lv_aload_n hx hb dL_law_1295 rfl (lv_at hl 3 rfl) ?_
      refine lv_iload_n hx hb dL_law_1296 rfl (lv_at hl 0 rfl) ?_
      refine lv_iconst (v := 4) hx hb dL_law_1297 (by decide) ?_
      refine lv_iadd hx hb dL_law_1298 ?_
      refine xl_i (y := nI (i + 4)) (nI_add i 4) ?_
      refine va_sld hx hb hX hbl hbA hS (x_si (k := 4) (by decide) hi hL) dL_law_1299 ?_
      refine xl_i (y := xs (i + 4)) (congrArg xs (x_sc (k := 4) (by decide) hi hL)) ?_
      refine lv_aload_n hx hb dL_law_1300 rfl (lv_at hl 3 rfl) ?_
      refine lv_iload_n hx hb dL_law_1301 rfl (lv_at hl 0 rfl) ?_
      refine lv_iconst (v := 5) hx hb dL_law_1302 (by decide) ?_
      refine lv_iadd hx hb dL_law_1303 ?_
      refine xl_i (y := nI (i + 5)) (nI_add i 5) ?_
      refine va_sld hx hb hX hbl hbA hS (x_si (k := 5) (by decide) hi hL) dL_law_1304 ?_
      refine xl_i (y := xs (i + 5)) (congrArg xs (x_sc (k := 5) (by decide) hi hL)) ?_
      refine xc_ViT (wr := [(g0, .inr (9, [.ref m_ys, .ref m_yk, .ref m_yo, .ref m_yt, .int b0, .ref m_yfa, .ref m_yfe, .int m_mL, .int m_mS, .int m_mM, .ref m_yro, .ref m_yhe, .ref m_ygr, .int m_mF, .int m_mC, .int m_mY, .ref m_yta, .int (nI (z)), .int (nI (m_mf)), .int (nI (m_mt)), .int m_mv, .int m_mw, .ref m_ywa, .ref m_ybi, .ref m_ysi, .ref m_ynu, .ref m_ymo])), (m_yt, .inl (cI, 7, .inl m_mq)), (m_ybi, .inl (cI, 4, .inl m_bi)), (m_ysi, .inl (cI, 4, .inl m_sq)), (m_ynu, .inl (cJ, 160, .inr (.inl m_nb))), (m_ymo, .inl (cJ, 40, .inr (.inl m_mv9)))]) hF (c_X8_copy_02 l D cI cJ cZ cS ta sa sv H.size h0 qh qk qd b0 qa qm qs qp ql qt qz qf s0 s1 s2 s3 bt0 sz0 sn0 bt1 sz1 sn1 bt2 sz2 sn2 bt3 sz3 sn3 nu0 nu1 nu2 nu3 ff (xs (i + 2)) (xs (i + 4)) (xs (i + 5)) hsz0 hsz1 hsz2 hsz3) kv_L_166 ⟨rfl, rfl, Nat.le_of_ble_eq_true rfl, Nat.le_of_ble_eq_true rfl⟩ ⟨Nat.le_of_ble_eq_true rfl, Nat.le_of_ble_eq_true rfl⟩ hK hN hZ hP hD hS hA [0, 1, 2, 3, 4, 5, 6, 7, 8, 9, 10] [11, 12, 13, 14, 15, 16] rfl rfl rfl rfl (by decide) 0 rfl rfl rfl rfl hl.1 rfl (Nat.le_of_ble_eq_true rfl) dL_law_1305 (fun r_45 u_r_45 H locs hw_r_45 hP hD hS => ?_)
      obtain ⟨nv_46, f2_47⟩ := u_r_45
      try dsimp only at hw_r_45
      obtain ⟨hw_r_45, i_48⟩ := hw_r_45
      have hP : va_P D vwCl ([(g0, .inr (9, [.ref m_ys, .ref m_yk, .ref m_yo, .ref m_yt, .int b0, .ref m_yfa, .ref m_yfe, .int m_mL, .int m_mS, .int m_mM, .ref m_yro, .ref m_yhe, .ref m_ygr, .int m_mF, .int m_mC, .int m_mY, .ref m_yta, .int (nI (z)), .int (nI (m_mf)), .int (nI (m_mt)), .int m_mv, .int m_mw, .ref m_ywa, .ref m_ybi, .ref m_ysi, .ref m_ynu, .ref m_ymo])), (m_yt, .inl (cI, 7, .inl m_mq)), (m_ybi, .inl (cI, 4, .inl m_bi)), (m_ysi, .inl (cI, 4, .inl m_sq)), (m_ynu, .inl (cJ, 160, .inr (.inl m_nb))), (m_ymo, .inl (cJ, 40, .inr (.inl m_mv9))), (h0, .inr (8, [.ref qh, .ref qk, .ref qd, .int b0, .ref qa, .ref qm, .ref qs, .ref qp, .ref ql, .ref qt, .ref qz, .ref qf])), (qz, .inl (cS, 4, .inr (.inr (.inr (.inr (xSh s0 s1 s2 s3)))))), (s0, .inr (4, [.int bt0, .int (nI (sz0)), .ref sn0])), (s1, .inr (4, [.int bt1, .int (nI (sz1)), .ref sn1])), (s2, .inr (4, [.int bt2, .int (nI (sz2)), .ref sn2])), (s3, .inr (4, [.int bt3, .int (nI (sz3)), .ref sn3])), (sn0, .inl (cJ, 40, .inr (.inl nu0))), (sn1, .inl (cJ, 40, .inr (.inl nu1))), (sn2, .inl (cJ, 40, .inr (.inl nv_46))), (sn3, .inl (cJ, 40, .inr (.inl nu3))), (qf, .inl (cI, 7, .inl f2_47))] ++ tl) H := hP
      have hD : va_D A ([(g0, .inr (9, [.ref m_ys, .ref m_yk, .ref m_yo, .ref m_yt, .int b0, .ref m_yfa, .ref m_yfe, .int m_mL, .int m_mS, .int m_mM, .ref m_yro, .ref m_yhe, .ref m_ygr, .int m_mF, .int m_mC, .int m_mY, .ref m_yta, .int (nI (z)), .int (nI (m_mf)), .int (nI (m_mt)), .int m_mv, .int m_mw, .ref m_ywa, .ref m_ybi, .ref m_ysi, .ref m_ynu, .ref m_ymo])), (m_yt, .inl (cI, 7, .inl m_mq)), (m_ybi, .inl (cI, 4, .inl m_bi)), (m_ysi, .inl (cI, 4, .inl m_sq)), (m_ynu, .inl (cJ, 160, .inr (.inl m_nb))), (m_ymo, .inl (cJ, 40, .inr (.inl m_mv9))), (h0, .inr (8, [.ref qh, .ref qk, .ref qd, .int b0, .ref qa, .ref qm, .ref qs, .ref qp, .ref ql, .ref qt, .ref qz, .ref qf])), (qz, .inl (cS, 4, .inr (.inr (.inr (.inr (xSh s0 s1 s2 s3)))))), (s0, .inr (4, [.int bt0, .int (nI (sz0)), .ref sn0])), (s1, .inr (4, [.int bt1, .int (nI (sz1)), .ref sn1])), (s2, .inr (4, [.int bt2, .int (nI (sz2)), .ref sn2])), (s3, .inr (4, [.int bt3, .int (nI (sz3)), .ref sn3])), (sn0, .inl (cJ, 40, .inr (.inl nu0))), (sn1, .inl (cJ, 40, .inr (.inl nu1))), (sn2, .inl (cJ, 40, .inr (.inl nv_46))), (sn3, .inl (cJ, 40, .inr (.inl nu3))), (qf, .inl (cI, 7, .inl f2_47))] ++ tl) := hD
      subst hw_r_45
      refine lv_pop hx hb dL_law_1308 rfl ?_
      refine lv_aload_n hx hb dL_law_1309 rfl (lv_at hl 1 rfl) ?_
      refine lv_aload_n hx hb dL_law_1310 rfl (lv_at hl 3 rfl) ?_
      refine lv_iload_n hx hb dL_law_1311 rfl (lv_at hl 0 rfl) ?_
      refine lv_iconst (v := 1) hx hb dL_law_1312 (by decide) ?_
      refine lv_iadd hx hb dL_law_1313 ?_
      refine xl_i (y := nI (i + 1)) (nI_add i 1) ?_
      refine va_sld hx hb hX hbl hbA hS (x_si (k := 1) (by decide) hi hL) dL_law_1314 ?_
      refine xl_i (y := xs (i + 1)) (congrArg xs (x_sc (k := 1) (by decide) hi hL)) ?_
      refine xl_i (y := 0) eq1 ?_
      refine lv_aload_n hx hb dL_law_1315 rfl (lv_at hl 3 rfl) ?_
      refine lv_iload_n hx hb dL_law_1316 rfl (lv_at hl 0 rfl) ?_
      refine lv_iconst (v := 2) hx hb dL_law_1317 (by decide) ?_
      refine lv_iadd hx hb dL_law_1318 ?_
      refine xl_i (y := nI (i + 2)) (nI_add i 2) ?_
      refine va_sld hx hb hX hbl hbA hS (x_si (k := 2) (by decide) hi hL) dL_law_1319 ?_
      refine xl_i (y := xs (i + 2)) (congrArg xs (x_sc (k := 2) (by decide) hi hL)) ?_
      refine lv_aload_n hx hb dL_law_1320 rfl (lv_at hl 3 rfl) ?_
      refine lv_iload_n hx hb dL_law_1321 rfl (lv_at hl 0 rfl) ?_
      refine lv_iconst (v := 3) hx hb dL_law_1322 (by decide) ?_
      refine lv_iadd hx hb dL_law_1323 ?_
      refine xl_i (y := nI (i + 3)) (nI_add i 3) ?_
      refine va_sld hx hb hX hbl hbA hS (x_si (k := 3) (by decide) hi hL) dL_law_1324 ?_
      refine xl_i (y := xs (i + 3)) (congrArg xs (x_sc (k := 3) (by decide) hi hL)) ?_
      refine xl_i (y := 2) eq3 ?_
      refine lv_aload_n hx hb dL_law_1325 rfl (lv_at hl 3 rfl) ?_
      refine lv_iload_n hx hb dL_law_1326 rfl (lv_at hl 0 rfl) ?_
      refine lv_iconst (v := 4) hx hb dL_law_1327 (by decide) ?_
      refine lv_iadd hx hb dL_law_1328 ?_
      refine xl_i (y := nI (i + 4)) (nI_add i 4) ?_
      refine va_sld hx hb hX hbl hbA hS (x_si (k := 4) (by decide) hi hL) dL_law_1329 ?_
      refine xl_i (y := xs (i + 4)) (congrArg xs (x_sc (k := 4) (by decide) hi hL)) ?_
      refine lv_aload_n hx hb dL_law_1330 rfl (lv_at hl 3 rfl) ?_
      refine lv_iload_n hx hb dL_law_1331 rfl (lv_at hl 0 rfl) ?_
      refine lv_iconst (v := 5) hx hb dL_law_1332 (by decide) ?_
      refine lv_iadd hx hb dL_law_1333 ?_
      refine xl_i (y := nI (i + 5)) (nI_add i 5) ?_
      refine va_sld hx hb hX hbl hbA hS (x_si (k := 5) (by decide) hi hL) dL_law_1334 ?_
      refine xl_i (y := xs (i + 5)) (congrArg xs (x_sc (k := 5) (by decide) hi hL)) ?_
      refine xc_ViT (wr := [(h0, .inr (8, [.ref qh, .ref qk, .ref qd, .int b0, .ref qa, .ref qm, .ref qs, .ref qp, .ref ql, .ref qt, .ref qz, .ref qf])), (qz, .inl (cS, 4, .inr (.inr (.inr (.inr (xSh s0 s1 s2 s3)))))), (s0, .inr (4, [.int bt0, .int (nI (sz0)), .ref sn0])), (s1, .inr (4, [.int bt1, .int (nI (sz1)), .ref sn1])), (s2, .inr (4, [.int bt2, .int (nI (sz2)), .ref sn2])), (s3, .inr (4, [.int bt3, .int (nI (sz3)), .ref sn3])), (sn0, .inl (cJ, 40, .inr (.inl nu0))), (sn1, .inl (cJ, 40, .inr (.inl nu1))), (sn2, .inl (cJ, 40, .inr (.inl nv_46))), (sn3, .inl (cJ, 40, .inr (.inl nu3))), (qf, .inl (cI, 7, .inl f2_47))]) hF (c_X9_copy_02 l D cI cJ cZ cS ta sa sv H.size g0 m_ys m_yk m_yo m_yt b0 m_yfa m_yfe m_mL m_mS m_mM m_yro m_yhe m_ygr m_mF m_mC m_mY m_yta z m_mf m_mt m_mv m_mw m_ywa m_ybi m_ysi m_ynu m_ymo m_bi m_sq m_nb m_mv9 m_mq (xs (i + 2)) (xs (i + 4)) (xs (i + 5)) sz0 sz2 r_z0 hsz0 r_z2 hsz2 m_hsq) kv_L_170 ⟨rfl, rfl, Nat.le_of_ble_eq_true rfl, Nat.le_of_ble_eq_true rfl⟩ ⟨Nat.le_of_ble_eq_true rfl, Nat.le_of_ble_eq_true rfl⟩ hK hN hZ hP hD hS hA [0, 2, 3, 4, 5, 1] [6, 7, 8, 9, 10, 11, 12, 13, 14, 15, 16] rfl rfl rfl rfl (by decide) 0 rfl rfl rfl rfl hl.1 rfl (Nat.le_of_ble_eq_true rfl) dL_law_1335 (fun r_49 u_r_49 H locs hw_r_49 hP hD hS => ?_)
      obtain ⟨nb2_50, mv2_51, mq2_52⟩ := u_r_49
      try dsimp only at hw_r_49
      obtain ⟨hw_r_49, i_53, i_54⟩ := hw_r_49
      have hP : va_P D vwCl ([(h0, .inr (8, [.ref qh, .ref qk, .ref qd, .int b0, .ref qa, .ref qm, .ref qs, .ref qp, .ref ql, .ref qt, .ref qz, .ref qf])), (qz, .inl (cS, 4, .inr (.inr (.inr (.inr (xSh s0 s1 s2 s3)))))), (s0, .inr (4, [.int bt0, .int (nI (sz0)), .ref sn0])), (s1, .inr (4, [.int bt1, .int (nI (sz1)), .ref sn1])), (s2, .inr (4, [.int bt2, .int (nI (sz2)), .ref sn2])), (s3, .inr (4, [.int bt3, .int (nI (sz3)), .ref sn3])), (sn0, .inl (cJ, 40, .inr (.inl nu0))), (sn1, .inl (cJ, 40, .inr (.inl nu1))), (sn2, .inl (cJ, 40, .inr (.inl nv_46))), (sn3, .inl (cJ, 40, .inr (.inl nu3))), (qf, .inl (cI, 7, .inl f2_47)), (g0, .inr (9, [.ref m_ys, .ref m_yk, .ref m_yo, .ref m_yt, .int b0, .ref m_yfa, .ref m_yfe, .int m_mL, .int m_mS, .int m_mM, .ref m_yro, .ref m_yhe, .ref m_ygr, .int m_mF, .int m_mC, .int m_mY, .ref m_yta, .int (nI (z)), .int (nI (m_mf)), .int (nI (m_mt)), .int m_mv, .int m_mw, .ref m_ywa, .ref m_ybi, .ref m_ysi, .ref m_ynu, .ref m_ymo])), (m_ybi, .inl (cI, 4, .inl m_bi)), (m_ysi, .inl (cI, 4, .inl m_sq)), (m_ynu, .inl (cJ, 160, .inr (.inl nb2_50))), (m_ymo, .inl (cJ, 40, .inr (.inl mv2_51))), (m_yt, .inl (cI, 7, .inl mq2_52))] ++ tl) H := hP
      have hD : va_D A ([(h0, .inr (8, [.ref qh, .ref qk, .ref qd, .int b0, .ref qa, .ref qm, .ref qs, .ref qp, .ref ql, .ref qt, .ref qz, .ref qf])), (qz, .inl (cS, 4, .inr (.inr (.inr (.inr (xSh s0 s1 s2 s3)))))), (s0, .inr (4, [.int bt0, .int (nI (sz0)), .ref sn0])), (s1, .inr (4, [.int bt1, .int (nI (sz1)), .ref sn1])), (s2, .inr (4, [.int bt2, .int (nI (sz2)), .ref sn2])), (s3, .inr (4, [.int bt3, .int (nI (sz3)), .ref sn3])), (sn0, .inl (cJ, 40, .inr (.inl nu0))), (sn1, .inl (cJ, 40, .inr (.inl nu1))), (sn2, .inl (cJ, 40, .inr (.inl nv_46))), (sn3, .inl (cJ, 40, .inr (.inl nu3))), (qf, .inl (cI, 7, .inl f2_47)), (g0, .inr (9, [.ref m_ys, .ref m_yk, .ref m_yo, .ref m_yt, .int b0, .ref m_yfa, .ref m_yfe, .int m_mL, .int m_mS, .int m_mM, .ref m_yro, .ref m_yhe, .ref m_ygr, .int m_mF, .int m_mC, .int m_mY, .ref m_yta, .int (nI (z)), .int (nI (m_mf)), .int (nI (m_mt)), .int m_mv, .int m_mw, .ref m_ywa, .ref m_ybi, .ref m_ysi, .ref m_ynu, .ref m_ymo])), (m_ybi, .inl (cI, 4, .inl m_bi)), (m_ysi, .inl (cI, 4, .inl m_sq)), (m_ynu, .inl (cJ, 160, .inr (.inl nb2_50))), (m_ymo, .inl (cJ, 40, .inr (.inl mv2_51))), (m_yt, .inl (cI, 7, .inl mq2_52))] ++ tl) := hD
      subst hw_r_49
      refine lv_pop hx hb dL_law_1338 rfl ?_
      refine lv_goto (tgt := 1483) hx hb dL_law_1339 (by decide) ?_
      exact kkx _ _ _ nu0 nu1 nv_46 nu3 f2_47 mq2_52 nb2_50 mv2_51 (xt_P hP [0, 1, 2, 3, 4, 5, 6, 7, 8, 9, 10, 11, 16, 12, 13, 14, 15] rfl) (xt_D hD [0, 1, 2, 3, 4, 5, 6, 7, 8, 9, 10, 11, 16, 12, 13, 14, 15] (by decide +kernel) rfl) (fun j hj => (i_54 (0 + j) (by omega)).trans (r_n0 j hj)) (fun j hj => (i_54 (40 + j) (by omega)).trans (r_n1 j hj)) (fun j hj => (i_53 j).trans ((sp_cneq r_b0 r_b2 r_n0 (by omega) (r_n2 j hj)).trans (i_48 j).symm)) (fun j hj => (i_54 (120 + j) (by omega)).trans (r_n3 j hj)) hS hl
    · skip
      refine lv_aload_n hx hb dL_law_1280 rfl (lv_at hl 3 rfl) ?_
      refine lv_iload_n hx hb dL_law_1281 rfl (lv_at hl 0 rfl) ?_
      refine lv_iconst (v := 1) hx hb dL_law_1282 (by decide) ?_
      refine lv_iadd hx hb dL_law_1283 ?_
      refine xl_i (y := nI (i + 1)) (nI_add i 1) ?_
      refine va_sld hx hb hX hbl hbA hS (x_si (k := 1) (by decide) hi hL) dL_law_1284 ?_
      refine xl_i (y := xs (i + 1)) (congrArg xs (x_sc (k := 1) (by decide) hi hL)) ?_
      refine xl_i (y := 0) eq1 ?_
      refine lv_aload_n hx hb dL_law_1285 rfl (lv_at hl 3 rfl) ?_
      refine lv_iload_n hx hb dL_law_1286 rfl (lv_at hl 0 rfl) ?_
      refine lv_iconst (v := 2) hx hb dL_law_1287 (by decide) ?_
      refine lv_iadd hx hb dL_law_1288 ?_
      refine xl_i (y := nI (i + 2)) (nI_add i 2) ?_
      refine va_sld hx hb hX hbl hbA hS (x_si (k := 2) (by decide) hi hL) dL_law_1289 ?_
      refine xl_i (y := xs (i + 2)) (congrArg xs (x_sc (k := 2) (by decide) hi hL)) ?_
      refine lv_aload_n hx hb dL_law_1290 rfl (lv_at hl 3 rfl) ?_
      refine lv_iload_n hx hb dL_law_1291 rfl (lv_at hl 0 rfl) ?_
      refine lv_iconst (v := 3) hx hb dL_law_1292 (by decide) ?_
      refine lv_iadd hx hb dL_law_1293 ?_
      refine xl_i (y := nI (i + 3)) (nI_add i 3) ?_
      refine va_sld hx hb hX hbl hbA hS (x_si (k := 3) (by decide) hi hL) dL_law_1294 ?_
      refine xl_i (y := xs (i + 3)) (congrArg xs (x_sc (k := 3) (by decide) hi hL)) ?_
      refine xl_i (y := 3) eq3 ?_
      refine lv_aload_n hx hb dL_law_1295 rfl (lv_at hl 3 rfl) ?_
      refine lv_iload_n hx hb dL_law_1296 rfl (lv_at hl 0 rfl) ?_
      refine lv_iconst (v := 4) hx hb dL_law_1297 (by decide) ?_
      refine lv_iadd hx hb dL_law_1298 ?_
      refine xl_i (y := nI (i + 4)) (nI_add i 4) ?_
      refine va_sld hx hb hX hbl hbA hS (x_si (k := 4) (by decide) hi hL) dL_law_1299 ?_
      refine xl_i (y := xs (i + 4)) (congrArg xs (x_sc (k := 4) (by decide) hi hL)) ?_
      refine lv_aload_n hx hb dL_law_1300 rfl (lv_at hl 3 rfl) ?_
      refine lv_iload_n hx hb dL_law_1301 rfl (lv_at hl 0 rfl) ?_
      refine lv_iconst (v := 5) hx hb dL_law_1302 (by decide) ?_
      refine lv_iadd hx hb dL_law_1303 ?_
      refine xl_i (y := nI (i + 5)) (nI_add i 5) ?_
      refine va_sld hx hb hX hbl hbA hS (x_si (k := 5) (by decide) hi hL) dL_law_1304 ?_
      refine xl_i (y := xs (i + 5)) (congrArg xs (x_sc (k := 5) (by decide) hi hL)) ?_
      refine xc_ViT (wr := [(g0, .inr (9, [.ref m_ys, .ref m_yk, .ref m_yo, .ref m_yt, .int b0, .ref m_yfa, .ref m_yfe, .int m_mL, .int m_mS, .int m_mM, .ref m_yro, .ref m_yhe, .ref m_ygr, .int m_mF, .int m_mC, .int m_mY, .ref m_yta, .int (nI (z)), .int (nI (m_mf)), .int (nI (m_mt)), .int m_mv, .int m_mw, .ref m_ywa, .ref m_ybi, .ref m_ysi, .ref m_ynu, .ref m_ymo])), (m_yt, .inl (cI, 7, .inl m_mq)), (m_ybi, .inl (cI, 4, .inl m_bi)), (m_ysi, .inl (cI, 4, .inl m_sq)), (m_ynu, .inl (cJ, 160, .inr (.inl m_nb))), (m_ymo, .inl (cJ, 40, .inr (.inl m_mv9)))]) hF (c_X8_copy_03 l D cI cJ cZ cS ta sa sv H.size h0 qh qk qd b0 qa qm qs qp ql qt qz qf s0 s1 s2 s3 bt0 sz0 sn0 bt1 sz1 sn1 bt2 sz2 sn2 bt3 sz3 sn3 nu0 nu1 nu2 nu3 ff (xs (i + 2)) (xs (i + 4)) (xs (i + 5)) hsz0 hsz1 hsz2 hsz3) kv_L_166 ⟨rfl, rfl, Nat.le_of_ble_eq_true rfl, Nat.le_of_ble_eq_true rfl⟩ ⟨Nat.le_of_ble_eq_true rfl, Nat.le_of_ble_eq_true rfl⟩ hK hN hZ hP hD hS hA [0, 1, 2, 3, 4, 5, 6, 7, 8, 9, 10] [11, 12, 13, 14, 15, 16] rfl rfl rfl rfl (by decide) 0 rfl rfl rfl rfl hl.1 rfl (Nat.le_of_ble_eq_true rfl) dL_law_1305 (fun r_55 u_r_55 H locs hw_r_55 hP hD hS => ?_)
      obtain ⟨nv_56, f2_57⟩ := u_r_55
      try dsimp only at hw_r_55
      obtain ⟨hw_r_55, i_58⟩ := hw_r_55
      have hP : va_P D vwCl ([(g0, .inr (9, [.ref m_ys, .ref m_yk, .ref m_yo, .ref m_yt, .int b0, .ref m_yfa, .ref m_yfe, .int m_mL, .int m_mS, .int m_mM, .ref m_yro, .ref m_yhe, .ref m_ygr, .int m_mF, .int m_mC, .int m_mY, .ref m_yta, .int (nI (z)), .int (nI (m_mf)), .int (nI (m_mt)), .int m_mv, .int m_mw, .ref m_ywa, .ref m_ybi, .ref m_ysi, .ref m_ynu, .ref m_ymo])), (m_yt, .inl (cI, 7, .inl m_mq)), (m_ybi, .inl (cI, 4, .inl m_bi)), (m_ysi, .inl (cI, 4, .inl m_sq)), (m_ynu, .inl (cJ, 160, .inr (.inl m_nb))), (m_ymo, .inl (cJ, 40, .inr (.inl m_mv9))), (h0, .inr (8, [.ref qh, .ref qk, .ref qd, .int b0, .ref qa, .ref qm, .ref qs, .ref qp, .ref ql, .ref qt, .ref qz, .ref qf])), (qz, .inl (cS, 4, .inr (.inr (.inr (.inr (xSh s0 s1 s2 s3)))))), (s0, .inr (4, [.int bt0, .int (nI (sz0)), .ref sn0])), (s1, .inr (4, [.int bt1, .int (nI (sz1)), .ref sn1])), (s2, .inr (4, [.int bt2, .int (nI (sz2)), .ref sn2])), (s3, .inr (4, [.int bt3, .int (nI (sz3)), .ref sn3])), (sn0, .inl (cJ, 40, .inr (.inl nu0))), (sn1, .inl (cJ, 40, .inr (.inl nu1))), (sn2, .inl (cJ, 40, .inr (.inl nu2))), (sn3, .inl (cJ, 40, .inr (.inl nv_56))), (qf, .inl (cI, 7, .inl f2_57))] ++ tl) H := hP
      have hD : va_D A ([(g0, .inr (9, [.ref m_ys, .ref m_yk, .ref m_yo, .ref m_yt, .int b0, .ref m_yfa, .ref m_yfe, .int m_mL, .int m_mS, .int m_mM, .ref m_yro, .ref m_yhe, .ref m_ygr, .int m_mF, .int m_mC, .int m_mY, .ref m_yta, .int (nI (z)), .int (nI (m_mf)), .int (nI (m_mt)), .int m_mv, .int m_mw, .ref m_ywa, .ref m_ybi, .ref m_ysi, .ref m_ynu, .ref m_ymo])), (m_yt, .inl (cI, 7, .inl m_mq)), (m_ybi, .inl (cI, 4, .inl m_bi)), (m_ysi, .inl (cI, 4, .inl m_sq)), (m_ynu, .inl (cJ, 160, .inr (.inl m_nb))), (m_ymo, .inl (cJ, 40, .inr (.inl m_mv9))), (h0, .inr (8, [.ref qh, .ref qk, .ref qd, .int b0, .ref qa, .ref qm, .ref qs, .ref qp, .ref ql, .ref qt, .ref qz, .ref qf])), (qz, .inl (cS, 4, .inr (.inr (.inr (.inr (xSh s0 s1 s2 s3)))))), (s0, .inr (4, [.int bt0, .int (nI (sz0)), .ref sn0])), (s1, .inr (4, [.int bt1, .int (nI (sz1)), .ref sn1])), (s2, .inr (4, [.int bt2, .int (nI (sz2)), .ref sn2])), (s3, .inr (4, [.int bt3, .int (nI (sz3)), .ref sn3])), (sn0, .inl (cJ, 40, .inr (.inl nu0))), (sn1, .inl (cJ, 40, .inr (.inl nu1))), (sn2, .inl (cJ, 40, .inr (.inl nu2))), (sn3, .inl (cJ, 40, .inr (.inl nv_56))), (qf, .inl (cI, 7, .inl f2_57))] ++ tl) := hD
      subst hw_r_55
      refine lv_pop hx hb dL_law_1308 rfl ?_
      refine lv_aload_n hx hb dL_law_1309 rfl (lv_at hl 1 rfl) ?_
      refine lv_aload_n hx hb dL_law_1310 rfl (lv_at hl 3 rfl) ?_
      refine lv_iload_n hx hb dL_law_1311 rfl (lv_at hl 0 rfl) ?_
      refine lv_iconst (v := 1) hx hb dL_law_1312 (by decide) ?_
      refine lv_iadd hx hb dL_law_1313 ?_
      refine xl_i (y := nI (i + 1)) (nI_add i 1) ?_
      refine va_sld hx hb hX hbl hbA hS (x_si (k := 1) (by decide) hi hL) dL_law_1314 ?_
      refine xl_i (y := xs (i + 1)) (congrArg xs (x_sc (k := 1) (by decide) hi hL)) ?_
      refine xl_i (y := 0) eq1 ?_
      refine lv_aload_n hx hb dL_law_1315 rfl (lv_at hl 3 rfl) ?_
      refine lv_iload_n hx hb dL_law_1316 rfl (lv_at hl 0 rfl) ?_
      refine lv_iconst (v := 2) hx hb dL_law_1317 (by decide) ?_
      refine lv_iadd hx hb dL_law_1318 ?_
      refine xl_i (y := nI (i + 2)) (nI_add i 2) ?_
      refine va_sld hx hb hX hbl hbA hS (x_si (k := 2) (by decide) hi hL) dL_law_1319 ?_
      refine xl_i (y := xs (i + 2)) (congrArg xs (x_sc (k := 2) (by decide) hi hL)) ?_
      refine lv_aload_n hx hb dL_law_1320 rfl (lv_at hl 3 rfl) ?_
      refine lv_iload_n hx hb dL_law_1321 rfl (lv_at hl 0 rfl) ?_
      refine lv_iconst (v := 3) hx hb dL_law_1322 (by decide) ?_
      refine lv_iadd hx hb dL_law_1323 ?_
      refine xl_i (y := nI (i + 3)) (nI_add i 3) ?_
      refine va_sld hx hb hX hbl hbA hS (x_si (k := 3) (by decide) hi hL) dL_law_1324 ?_
      refine xl_i (y := xs (i + 3)) (congrArg xs (x_sc (k := 3) (by decide) hi hL)) ?_
      refine xl_i (y := 3) eq3 ?_
      refine lv_aload_n hx hb dL_law_1325 rfl (lv_at hl 3 rfl) ?_
      refine lv_iload_n hx hb dL_law_1326 rfl (lv_at hl 0 rfl) ?_
      refine lv_iconst (v := 4) hx hb dL_law_1327 (by decide) ?_
      refine lv_iadd hx hb dL_law_1328 ?_
      refine xl_i (y := nI (i + 4)) (nI_add i 4) ?_
      refine va_sld hx hb hX hbl hbA hS (x_si (k := 4) (by decide) hi hL) dL_law_1329 ?_
      refine xl_i (y := xs (i + 4)) (congrArg xs (x_sc (k := 4) (by decide) hi hL)) ?_
      refine lv_aload_n hx hb dL_law_1330 rfl (lv_at hl 3 rfl) ?_
      refine lv_iload_n hx hb dL_law_1331 rfl (lv_at hl 0 rfl) ?_
      refine lv_iconst (v := 5) hx hb dL_law_1332 (by decide) ?_
      refine lv_iadd hx hb dL_law_1333 ?_
      refine xl_i (y := nI (i + 5)) (nI_add i 5) ?_
      refine va_sld hx hb hX hbl hbA hS (x_si (k := 5) (by decide) hi hL) dL_law_1334 ?_
      refine xl_i (y := xs (i + 5)) (congrArg xs (x_sc (k := 5) (by decide) hi hL)) ?_
      refine xc_ViT (wr := [(h0, .inr (8, [.ref qh, .ref qk, .ref qd, .int b0, .ref qa, .ref qm, .ref qs, .ref qp, .ref ql, .ref qt, .ref qz, .ref qf])), (qz, .inl (cS, 4, .inr (.inr (.inr (.inr (xSh s0 s1 s2 s3)))))), (s0, .inr (4, [.int bt0, .int (nI (sz0)), .ref sn0])), (s1, .inr (4, [.int bt1, .int (nI (sz1)), .ref sn1])), (s2, .inr (4, [.int bt2, .int (nI (sz2)), .ref sn2])), (s3, .inr (4, [.int bt3, .int (nI (sz3)), .ref sn3])), (sn0, .inl (cJ, 40, .inr (.inl nu0))), (sn1, .inl (cJ, 40, .inr (.inl nu1))), (sn2, .inl (cJ, 40, .inr (.inl nu2))), (sn3, .inl (cJ, 40, .inr (.inl nv_56))), (qf, .inl (cI, 7, .inl f2_57))]) hF (c_X9_copy_03 l D cI cJ cZ cS ta sa sv H.size g0 m_ys m_yk m_yo m_yt b0 m_yfa m_yfe m_mL m_mS m_mM m_yro m_yhe m_ygr m_mF m_mC m_mY m_yta z m_mf m_mt m_mv m_mw m_ywa m_ybi m_ysi m_ynu m_ymo m_bi m_sq m_nb m_mv9 m_mq (xs (i + 2)) (xs (i + 4)) (xs (i + 5)) sz0 sz3 r_z0 hsz0 r_z3 hsz3 m_hsq) kv_L_170 ⟨rfl, rfl, Nat.le_of_ble_eq_true rfl, Nat.le_of_ble_eq_true rfl⟩ ⟨Nat.le_of_ble_eq_true rfl, Nat.le_of_ble_eq_true rfl⟩ hK hN hZ hP hD hS hA [0, 2, 3, 4, 5, 1] [6, 7, 8, 9, 10, 11, 12, 13, 14, 15, 16] rfl rfl rfl rfl (by decide) 0 rfl rfl rfl rfl hl.1 rfl (Nat.le_of_ble_eq_true rfl) dL_law_1335 (fun r_59 u_r_59 H locs hw_r_59 hP hD hS => ?_)
      obtain ⟨nb2_60, mv2_61, mq2_62⟩ := u_r_59
      try dsimp only at hw_r_59
      obtain ⟨hw_r_59, i_63, i_64⟩ := hw_r_59
      have hP : va_P D vwCl ([(h0, .inr (8, [.ref qh, .ref qk, .ref qd, .int b0, .ref qa, .ref qm, .ref qs, .ref qp, .ref ql, .ref qt, .ref qz, .ref qf])), (qz, .inl (cS, 4, .inr (.inr (.inr (.inr (xSh s0 s1 s2 s3)))))), (s0, .inr (4, [.int bt0, .int (nI (sz0)), .ref sn0])), (s1, .inr (4, [.int bt1, .int (nI (sz1)), .ref sn1])), (s2, .inr (4, [.int bt2, .int (nI (sz2)), .ref sn2])), (s3, .inr (4, [.int bt3, .int (nI (sz3)), .ref sn3])), (sn0, .inl (cJ, 40, .inr (.inl nu0))), (sn1, .inl (cJ, 40, .inr (.inl nu1))), (sn2, .inl (cJ, 40, .inr (.inl nu2))), (sn3, .inl (cJ, 40, .inr (.inl nv_56))), (qf, .inl (cI, 7, .inl f2_57)), (g0, .inr (9, [.ref m_ys, .ref m_yk, .ref m_yo, .ref m_yt, .int b0, .ref m_yfa, .ref m_yfe, .int m_mL, .int m_mS, .int m_mM, .ref m_yro, .ref m_yhe, .ref m_ygr, .int m_mF, .int m_mC, .int m_mY, .ref m_yta, .int (nI (z)), .int (nI (m_mf)), .int (nI (m_mt)), .int m_mv, .int m_mw, .ref m_ywa, .ref m_ybi, .ref m_ysi, .ref m_ynu, .ref m_ymo])), (m_ybi, .inl (cI, 4, .inl m_bi)), (m_ysi, .inl (cI, 4, .inl m_sq)), (m_ynu, .inl (cJ, 160, .inr (.inl nb2_60))), (m_ymo, .inl (cJ, 40, .inr (.inl mv2_61))), (m_yt, .inl (cI, 7, .inl mq2_62))] ++ tl) H := hP
      have hD : va_D A ([(h0, .inr (8, [.ref qh, .ref qk, .ref qd, .int b0, .ref qa, .ref qm, .ref qs, .ref qp, .ref ql, .ref qt, .ref qz, .ref qf])), (qz, .inl (cS, 4, .inr (.inr (.inr (.inr (xSh s0 s1 s2 s3)))))), (s0, .inr (4, [.int bt0, .int (nI (sz0)), .ref sn0])), (s1, .inr (4, [.int bt1, .int (nI (sz1)), .ref sn1])), (s2, .inr (4, [.int bt2, .int (nI (sz2)), .ref sn2])), (s3, .inr (4, [.int bt3, .int (nI (sz3)), .ref sn3])), (sn0, .inl (cJ, 40, .inr (.inl nu0))), (sn1, .inl (cJ, 40, .inr (.inl nu1))), (sn2, .inl (cJ, 40, .inr (.inl nu2))), (sn3, .inl (cJ, 40, .inr (.inl nv_56))), (qf, .inl (cI, 7, .inl f2_57)), (g0, .inr (9, [.ref m_ys, .ref m_yk, .ref m_yo, .ref m_yt, .int b0, .ref m_yfa, .ref m_yfe, .int m_mL, .int m_mS, .int m_mM, .ref m_yro, .ref m_yhe, .ref m_ygr, .int m_mF, .int m_mC, .int m_mY, .ref m_yta, .int (nI (z)), .int (nI (m_mf)), .int (nI (m_mt)), .int m_mv, .int m_mw, .ref m_ywa, .ref m_ybi, .ref m_ysi, .ref m_ynu, .ref m_ymo])), (m_ybi, .inl (cI, 4, .inl m_bi)), (m_ysi, .inl (cI, 4, .inl m_sq)), (m_ynu, .inl (cJ, 160, .inr (.inl nb2_60))), (m_ymo, .inl (cJ, 40, .inr (.inl mv2_61))), (m_yt, .inl (cI, 7, .inl mq2_62))] ++ tl) := hD
      subst hw_r_59
      refine lv_pop hx hb dL_law_1338 rfl ?_
      refine lv_goto (tgt := 1483) hx hb dL_law_1339 (by decide) ?_
      exact kkx _ _ _ nu0 nu1 nu2 nv_56 f2_57 mq2_62 nb2_60 mv2_61 (xt_P hP [0, 1, 2, 3, 4, 5, 6, 7, 8, 9, 10, 11, 16, 12, 13, 14, 15] rfl) (xt_D hD [0, 1, 2, 3, 4, 5, 6, 7, 8, 9, 10, 11, 16, 12, 13, 14, 15] (by decide +kernel) rfl) (fun j hj => (i_64 (0 + j) (by omega)).trans (r_n0 j hj)) (fun j hj => (i_64 (40 + j) (by omega)).trans (r_n1 j hj)) (fun j hj => (i_64 (80 + j) (by omega)).trans (r_n2 j hj)) (fun j hj => (i_63 j).trans ((sp_cneq r_b0 r_b3 r_n0 (by omega) (r_n3 j hj)).trans (i_58 j).symm)) hS hl
  · skip
    refine lv_aload_n hx hb dL_law_1279 rfl (lv_at hl 2 rfl) ?_
    rcases x_sh4 (xs (i + 3)) with oq3 | eq3 | eq3 | eq3 | eq3
    · skip
      refine lv_aload_n hx hb dL_law_1280 rfl (lv_at hl 3 rfl) ?_
      refine lv_iload_n hx hb dL_law_1281 rfl (lv_at hl 0 rfl) ?_
      refine lv_iconst (v := 1) hx hb dL_law_1282 (by decide) ?_
      refine lv_iadd hx hb dL_law_1283 ?_
      refine xl_i (y := nI (i + 1)) (nI_add i 1) ?_
      refine va_sld hx hb hX hbl hbA hS (x_si (k := 1) (by decide) hi hL) dL_law_1284 ?_
      refine xl_i (y := xs (i + 1)) (congrArg xs (x_sc (k := 1) (by decide) hi hL)) ?_
      refine xl_i (y := 1) eq1 ?_
      refine lv_aload_n hx hb dL_law_1285 rfl (lv_at hl 3 rfl) ?_
      refine lv_iload_n hx hb dL_law_1286 rfl (lv_at hl 0 rfl) ?_
      refine lv_iconst (v := 2) hx hb dL_law_1287 (by decide) ?_
      refine lv_iadd hx hb dL_law_1288 ?_
      refine xl_i (y := nI (i + 2)) (nI_add i 2) ?_
      refine va_sld hx hb hX hbl hbA hS (x_si (k := 2) (by decide) hi hL) dL_law_1289 ?_
      refine xl_i (y := xs (i + 2)) (congrArg xs (x_sc (k := 2) (by decide) hi hL)) ?_
      refine lv_aload_n hx hb dL_law_1290 rfl (lv_at hl 3 rfl) ?_
      refine lv_iload_n hx hb dL_law_1291 rfl (lv_at hl 0 rfl) ?_
      refine lv_iconst (v := 3) hx hb dL_law_1292 (by decide) ?_
      refine lv_iadd hx hb dL_law_1293 ?_
      refine xl_i (y := nI (i + 3)) (nI_add i 3) ?_
      refine va_sld hx hb hX hbl hbA hS (x_si (k := 3) (by decide) hi hL) dL_law_1294 ?_
      refine xl_i (y := xs (i + 3)) (congrArg xs (x_sc (k := 3) (by decide) hi hL)) ?_
      refine lv_aload_n hx hb dL_law_1295 rfl (lv_at hl 3 rfl) ?_
      refine lv_iload_n hx hb dL_law_1296 rfl (lv_at hl 0 rfl) ?_
      refine lv_iconst (v := 4) hx hb dL_law_1297 (by decide) ?_
      refine lv_iadd hx hb dL_law_1298 ?_
      refine xl_i (y := nI (i + 4)) (nI_add i 4) ?_
      refine va_sld hx hb hX hbl hbA hS (x_si (k := 4) (by decide) hi hL) dL_law_1299 ?_
      refine xl_i (y := xs (i + 4)) (congrArg xs (x_sc (k := 4) (by decide) hi hL)) ?_
      refine lv_aload_n hx hb dL_law_1300 rfl (lv_at hl 3 rfl) ?_
      refine lv_iload_n hx hb dL_law_1301 rfl (lv_at hl 0 rfl) ?_
      refine lv_iconst (v := 5) hx hb dL_law_1302 (by decide) ?_
      refine lv_iadd hx hb dL_law_1303 ?_
      refine xl_i (y := nI (i + 5)) (nI_add i 5) ?_
      refine va_sld hx hb hX hbl hbA hS (x_si (k := 5) (by decide) hi hL) dL_law_1304 ?_
      refine xl_i (y := xs (i + 5)) (congrArg xs (x_sc (k := 5) (by decide) hi hL)) ?_
      refine xc_ViT (wr := [(qz, .inl (cS, 4, .inr (.inr (.inr (.inr (xSh s0 s1 s2 s3)))))), (s0, .inr (4, [.int bt0, .int (nI (sz0)), .ref sn0])), (s1, .inr (4, [.int bt1, .int (nI (sz1)), .ref sn1])), (s2, .inr (4, [.int bt2, .int (nI (sz2)), .ref sn2])), (s3, .inr (4, [.int bt3, .int (nI (sz3)), .ref sn3])), (sn0, .inl (cJ, 40, .inr (.inl nu0))), (sn1, .inl (cJ, 40, .inr (.inl nu1))), (sn2, .inl (cJ, 40, .inr (.inl nu2))), (sn3, .inl (cJ, 40, .inr (.inl nu3))), (g0, .inr (9, [.ref m_ys, .ref m_yk, .ref m_yo, .ref m_yt, .int b0, .ref m_yfa, .ref m_yfe, .int m_mL, .int m_mS, .int m_mM, .ref m_yro, .ref m_yhe, .ref m_ygr, .int m_mF, .int m_mC, .int m_mY, .ref m_yta, .int (nI (z)), .int (nI (m_mf)), .int (nI (m_mt)), .int m_mv, .int m_mw, .ref m_ywa, .ref m_ybi, .ref m_ysi, .ref m_ynu, .ref m_ymo])), (m_yt, .inl (cI, 7, .inl m_mq)), (m_ybi, .inl (cI, 4, .inl m_bi)), (m_ysi, .inl (cI, 4, .inl m_sq)), (m_ynu, .inl (cJ, 160, .inr (.inl m_nb))), (m_ymo, .inl (cJ, 40, .inr (.inl m_mv9)))]) hF (c_X8_copy_1o l D cI cJ cZ cS ta sa sv H.size h0 qh qk qd b0 qa qm qs qp ql qt qz qf ff (xs (i + 2)) (xs (i + 3)) (xs (i + 4)) (xs (i + 5)) oq3) kv_L_166 ⟨rfl, rfl, Nat.le_of_ble_eq_true rfl, Nat.le_of_ble_eq_true rfl⟩ ⟨Nat.le_of_ble_eq_true rfl, Nat.le_of_ble_eq_true rfl⟩ hK hN hZ hP hD hS hA [0, 10] [1, 2, 3, 4, 5, 6, 7, 8, 9, 11, 12, 13, 14, 15, 16] rfl rfl rfl rfl (by decide) 0 rfl rfl rfl rfl hl.1 rfl (Nat.le_of_ble_eq_true rfl) dL_law_1305 (fun r_65 u_r_65 H locs hw_r_65 hP hD hS => ?_)
      obtain ⟨f2_66, rfl⟩ : ∃ z, z = u_r_65 := ⟨_, rfl⟩
      try dsimp only at hw_r_65
      have hP : va_P D vwCl ([(qz, .inl (cS, 4, .inr (.inr (.inr (.inr (xSh s0 s1 s2 s3)))))), (s0, .inr (4, [.int bt0, .int (nI (sz0)), .ref sn0])), (s1, .inr (4, [.int bt1, .int (nI (sz1)), .ref sn1])), (s2, .inr (4, [.int bt2, .int (nI (sz2)), .ref sn2])), (s3, .inr (4, [.int bt3, .int (nI (sz3)), .ref sn3])), (sn0, .inl (cJ, 40, .inr (.inl nu0))), (sn1, .inl (cJ, 40, .inr (.inl nu1))), (sn2, .inl (cJ, 40, .inr (.inl nu2))), (sn3, .inl (cJ, 40, .inr (.inl nu3))), (g0, .inr (9, [.ref m_ys, .ref m_yk, .ref m_yo, .ref m_yt, .int b0, .ref m_yfa, .ref m_yfe, .int m_mL, .int m_mS, .int m_mM, .ref m_yro, .ref m_yhe, .ref m_ygr, .int m_mF, .int m_mC, .int m_mY, .ref m_yta, .int (nI (z)), .int (nI (m_mf)), .int (nI (m_mt)), .int m_mv, .int m_mw, .ref m_ywa, .ref m_ybi, .ref m_ysi, .ref m_ynu, .ref m_ymo])), (m_yt, .inl (cI, 7, .inl m_mq)), (m_ybi, .inl (cI, 4, .inl m_bi)), (m_ysi, .inl (cI, 4, .inl m_sq)), (m_ynu, .inl (cJ, 160, .inr (.inl m_nb))), (m_ymo, .inl (cJ, 40, .inr (.inl m_mv9))), (h0, .inr (8, [.ref qh, .ref qk, .ref qd, .int b0, .ref qa, .ref qm, .ref qs, .ref qp, .ref ql, .ref qt, .ref qz, .ref qf])), (qf, .inl (cI, 7, .inl f2_66))] ++ tl) H := hP
      have hD : va_D A ([(qz, .inl (cS, 4, .inr (.inr (.inr (.inr (xSh s0 s1 s2 s3)))))), (s0, .inr (4, [.int bt0, .int (nI (sz0)), .ref sn0])), (s1, .inr (4, [.int bt1, .int (nI (sz1)), .ref sn1])), (s2, .inr (4, [.int bt2, .int (nI (sz2)), .ref sn2])), (s3, .inr (4, [.int bt3, .int (nI (sz3)), .ref sn3])), (sn0, .inl (cJ, 40, .inr (.inl nu0))), (sn1, .inl (cJ, 40, .inr (.inl nu1))), (sn2, .inl (cJ, 40, .inr (.inl nu2))), (sn3, .inl (cJ, 40, .inr (.inl nu3))), (g0, .inr (9, [.ref m_ys, .ref m_yk, .ref m_yo, .ref m_yt, .int b0, .ref m_yfa, .ref m_yfe, .int m_mL, .int m_mS, .int m_mM, .ref m_yro, .ref m_yhe, .ref m_ygr, .int m_mF, .int m_mC, .int m_mY, .ref m_yta, .int (nI (z)), .int (nI (m_mf)), .int (nI (m_mt)), .int m_mv, .int m_mw, .ref m_ywa, .ref m_ybi, .ref m_ysi, .ref m_ynu, .ref m_ymo])), (m_yt, .inl (cI, 7, .inl m_mq)), (m_ybi, .inl (cI, 4, .inl m_bi)), (m_ysi, .inl (cI, 4, .inl m_sq)), (m_ynu, .inl (cJ, 160, .inr (.inl m_nb))), (m_ymo, .inl (cJ, 40, .inr (.inl m_mv9))), (h0, .inr (8, [.ref qh, .ref qk, .ref qd, .int b0, .ref qa, .ref qm, .ref qs, .ref qp, .ref ql, .ref qt, .ref qz, .ref qf])), (qf, .inl (cI, 7, .inl f2_66))] ++ tl) := hD
      subst hw_r_65
      refine lv_pop hx hb dL_law_1308 rfl ?_
      refine lv_aload_n hx hb dL_law_1309 rfl (lv_at hl 1 rfl) ?_
      refine lv_aload_n hx hb dL_law_1310 rfl (lv_at hl 3 rfl) ?_
      refine lv_iload_n hx hb dL_law_1311 rfl (lv_at hl 0 rfl) ?_
      refine lv_iconst (v := 1) hx hb dL_law_1312 (by decide) ?_
      refine lv_iadd hx hb dL_law_1313 ?_
      refine xl_i (y := nI (i + 1)) (nI_add i 1) ?_
      refine va_sld hx hb hX hbl hbA hS (x_si (k := 1) (by decide) hi hL) dL_law_1314 ?_
      refine xl_i (y := xs (i + 1)) (congrArg xs (x_sc (k := 1) (by decide) hi hL)) ?_
      refine xl_i (y := 1) eq1 ?_
      refine lv_aload_n hx hb dL_law_1315 rfl (lv_at hl 3 rfl) ?_
      refine lv_iload_n hx hb dL_law_1316 rfl (lv_at hl 0 rfl) ?_
      refine lv_iconst (v := 2) hx hb dL_law_1317 (by decide) ?_
      refine lv_iadd hx hb dL_law_1318 ?_
      refine xl_i (y := nI (i + 2)) (nI_add i 2) ?_
      refine va_sld hx hb hX hbl hbA hS (x_si (k := 2) (by decide) hi hL) dL_law_1319 ?_
      refine xl_i (y := xs (i + 2)) (congrArg xs (x_sc (k := 2) (by decide) hi hL)) ?_
      refine lv_aload_n hx hb dL_law_1320 rfl (lv_at hl 3 rfl) ?_
      refine lv_iload_n hx hb dL_law_1321 rfl (lv_at hl 0 rfl) ?_
      refine lv_iconst (v := 3) hx hb dL_law_1322 (by decide) ?_
      refine lv_iadd hx hb dL_law_1323 ?_
      refine xl_i (y := nI (i + 3)) (nI_add i 3) ?_
      refine va_sld hx hb hX hbl hbA hS (x_si (k := 3) (by decide) hi hL) dL_law_1324 ?_
      refine xl_i (y := xs (i + 3)) (congrArg xs (x_sc (k := 3) (by decide) hi hL)) ?_
      refine lv_aload_n hx hb dL_law_1325 rfl (lv_at hl 3 rfl) ?_
      refine lv_iload_n hx hb dL_law_1326 rfl (lv_at hl 0 rfl) ?_
      refine lv_iconst (v := 4) hx hb dL_law_1327 (by decide) ?_
      refine lv_iadd hx hb dL_law_1328 ?_
      refine xl_i (y := nI (i + 4)) (nI_add i 4) ?_
      refine va_sld hx hb hX hbl hbA hS (x_si (k := 4) (by decide) hi hL) dL_law_1329 ?_
      refine xl_i (y := xs (i + 4)) (congrArg xs (x_sc (k := 4) (by decide) hi hL)) ?_
      refine lv_aload_n hx hb dL_law_1330 rfl (lv_at hl 3 rfl) ?_
      refine lv_iload_n hx hb dL_law_1331 rfl (lv_at hl 0 rfl) ?_
      refine lv_iconst (v := 5) hx hb dL_law_1332 (by decide) ?_
      refine lv_iadd hx hb dL_law_1333 ?_
      refine xl_i (y := nI (i + 5)) (nI_add i 5) ?_
      refine va_sld hx hb hX hbl hbA hS (x_si (k := 5) (by decide) hi hL) dL_law_1334 ?_
      refine xl_i (y := xs (i + 5)) (congrArg xs (x_sc (k := 5) (by decide) hi hL)) ?_
      refine xc_ViT (wr := [(qz, .inl (cS, 4, .inr (.inr (.inr (.inr (xSh s0 s1 s2 s3)))))), (s0, .inr (4, [.int bt0, .int (nI (sz0)), .ref sn0])), (s1, .inr (4, [.int bt1, .int (nI (sz1)), .ref sn1])), (s2, .inr (4, [.int bt2, .int (nI (sz2)), .ref sn2])), (s3, .inr (4, [.int bt3, .int (nI (sz3)), .ref sn3])), (sn0, .inl (cJ, 40, .inr (.inl nu0))), (sn1, .inl (cJ, 40, .inr (.inl nu1))), (sn2, .inl (cJ, 40, .inr (.inl nu2))), (sn3, .inl (cJ, 40, .inr (.inl nu3))), (m_ybi, .inl (cI, 4, .inl m_bi)), (m_ysi, .inl (cI, 4, .inl m_sq)), (m_ynu, .inl (cJ, 160, .inr (.inl m_nb))), (m_ymo, .inl (cJ, 40, .inr (.inl m_mv9))), (h0, .inr (8, [.ref qh, .ref qk, .ref qd, .int b0, .ref qa, .ref qm, .ref qs, .ref qp, .ref ql, .ref qt, .ref qz, .ref qf])), (qf, .inl (cI, 7, .inl f2_66))]) hF (c_X9_copy_1o l D cI cJ cZ cS ta sa sv H.size g0 m_ys m_yk m_yo m_yt b0 m_yfa m_yfe m_mL m_mS m_mM m_yro m_yhe m_ygr m_mF m_mC m_mY m_yta z m_mf m_mt m_mv m_mw m_ywa m_ybi m_ysi m_ynu m_ymo m_mq (xs (i + 2)) (xs (i + 3)) (xs (i + 4)) (xs (i + 5)) oq3) kv_L_170 ⟨rfl, rfl, Nat.le_of_ble_eq_true rfl, Nat.le_of_ble_eq_true rfl⟩ ⟨Nat.le_of_ble_eq_true rfl, Nat.le_of_ble_eq_true rfl⟩ hK hN hZ hP hD hS hA [9, 10] [0, 1, 2, 3, 4, 5, 6, 7, 8, 11, 12, 13, 14, 15, 16] rfl rfl rfl rfl (by decide) 0 rfl rfl rfl rfl hl.1 rfl (Nat.le_of_ble_eq_true rfl) dL_law_1335 (fun r_67 u_r_67 H locs hw_r_67 hP hD hS => ?_)
      obtain ⟨mq2_68, rfl⟩ : ∃ z, z = u_r_67 := ⟨_, rfl⟩
      try dsimp only at hw_r_67
      have hP : va_P D vwCl ([(qz, .inl (cS, 4, .inr (.inr (.inr (.inr (xSh s0 s1 s2 s3)))))), (s0, .inr (4, [.int bt0, .int (nI (sz0)), .ref sn0])), (s1, .inr (4, [.int bt1, .int (nI (sz1)), .ref sn1])), (s2, .inr (4, [.int bt2, .int (nI (sz2)), .ref sn2])), (s3, .inr (4, [.int bt3, .int (nI (sz3)), .ref sn3])), (sn0, .inl (cJ, 40, .inr (.inl nu0))), (sn1, .inl (cJ, 40, .inr (.inl nu1))), (sn2, .inl (cJ, 40, .inr (.inl nu2))), (sn3, .inl (cJ, 40, .inr (.inl nu3))), (m_ybi, .inl (cI, 4, .inl m_bi)), (m_ysi, .inl (cI, 4, .inl m_sq)), (m_ynu, .inl (cJ, 160, .inr (.inl m_nb))), (m_ymo, .inl (cJ, 40, .inr (.inl m_mv9))), (h0, .inr (8, [.ref qh, .ref qk, .ref qd, .int b0, .ref qa, .ref qm, .ref qs, .ref qp, .ref ql, .ref qt, .ref qz, .ref qf])), (qf, .inl (cI, 7, .inl f2_66)), (g0, .inr (9, [.ref m_ys, .ref m_yk, .ref m_yo, .ref m_yt, .int b0, .ref m_yfa, .ref m_yfe, .int m_mL, .int m_mS, .int m_mM, .ref m_yro, .ref m_yhe, .ref m_ygr, .int m_mF, .int m_mC, .int m_mY, .ref m_yta, .int (nI (z)), .int (nI (m_mf)), .int (nI (m_mt)), .int m_mv, .int m_mw, .ref m_ywa, .ref m_ybi, .ref m_ysi, .ref m_ynu, .ref m_ymo])), (m_yt, .inl (cI, 7, .inl mq2_68))] ++ tl) H := hP
      have hD : va_D A ([(qz, .inl (cS, 4, .inr (.inr (.inr (.inr (xSh s0 s1 s2 s3)))))), (s0, .inr (4, [.int bt0, .int (nI (sz0)), .ref sn0])), (s1, .inr (4, [.int bt1, .int (nI (sz1)), .ref sn1])), (s2, .inr (4, [.int bt2, .int (nI (sz2)), .ref sn2])), (s3, .inr (4, [.int bt3, .int (nI (sz3)), .ref sn3])), (sn0, .inl (cJ, 40, .inr (.inl nu0))), (sn1, .inl (cJ, 40, .inr (.inl nu1))), (sn2, .inl (cJ, 40, .inr (.inl nu2))), (sn3, .inl (cJ, 40, .inr (.inl nu3))), (m_ybi, .inl (cI, 4, .inl m_bi)), (m_ysi, .inl (cI, 4, .inl m_sq)), (m_ynu, .inl (cJ, 160, .inr (.inl m_nb))), (m_ymo, .inl (cJ, 40, .inr (.inl m_mv9))), (h0, .inr (8, [.ref qh, .ref qk, .ref qd, .int b0, .ref qa, .ref qm, .ref qs, .ref qp, .ref ql, .ref qt, .ref qz, .ref qf])), (qf, .inl (cI, 7, .inl f2_66)), (g0, .inr (9, [.ref m_ys, .ref m_yk, .ref m_yo, .ref m_yt, .int b0, .ref m_yfa, .ref m_yfe, .int m_mL, .int m_mS, .int m_mM, .ref m_yro, .ref m_yhe, .ref m_ygr, .int m_mF, .int m_mC, .int m_mY, .ref m_yta, .int (nI (z)), .int (nI (m_mf)), .int (nI (m_mt)), .int m_mv, .int m_mw, .ref m_ywa, .ref m_ybi, .ref m_ysi, .ref m_ynu, .ref m_ymo])), (m_yt, .inl (cI, 7, .inl mq2_68))] ++ tl) := hD
      subst hw_r_67
      refine lv_pop hx hb dL_law_1338 rfl ?_
      refine lv_goto (tgt := 1483) hx hb dL_law_1339 (by decide) ?_
      exact kkx _ _ _ nu0 nu1 nu2 nu3 f2_66 mq2_68 m_nb m_mv9 (xt_P hP [13, 0, 1, 2, 3, 4, 5, 6, 7, 8, 14, 15, 16, 9, 10, 11, 12] rfl) (xt_D hD [13, 0, 1, 2, 3, 4, 5, 6, 7, 8, 14, 15, 16, 9, 10, 11, 12] (by decide +kernel) rfl) r_n0 r_n1 r_n2 r_n3 hS hl
    · skip
      refine lv_aload_n hx hb dL_law_1280 rfl (lv_at hl 3 rfl) ?_
      refine lv_iload_n hx hb dL_law_1281 rfl (lv_at hl 0 rfl) ?_
      refine lv_iconst (v := 1) hx hb dL_law_1282 (by decide) ?_
      refine lv_iadd hx hb dL_law_1283 ?_
      refine xl_i (y := nI (i + 1)) (nI_add i 1) ?_
      refine va_sld hx hb hX hbl hbA hS (x_si (k := 1) (by decide) hi hL) dL_law_1284 ?_
      refine xl_i (y := xs (i + 1)) (congrArg xs (x_sc (k := 1) (by decide) hi hL)) ?_
      refine xl_i (y := 1) eq1 ?_
      refine lv_aload_n hx hb dL_law_1285 rfl (lv_at hl 3 rfl) ?_
      refine lv_iload_n hx hb dL_law_1286 rfl (lv_at hl 0 rfl) ?_
      refine lv_iconst (v := 2) hx hb dL_law_1287 (by decide) ?_
      refine lv_iadd hx hb dL_law_1288 ?_
      refine xl_i (y := nI (i + 2)) (nI_add i 2) ?_
      refine va_sld hx hb hX hbl hbA hS (x_si (k := 2) (by decide) hi hL) dL_law_1289 ?_
      refine xl_i (y := xs (i + 2)) (congrArg xs (x_sc (k := 2) (by decide) hi hL)) ?_
      refine lv_aload_n hx hb dL_law_1290 rfl (lv_at hl 3 rfl) ?_
      refine lv_iload_n hx hb dL_law_1291 rfl (lv_at hl 0 rfl) ?_
      refine lv_iconst (v := 3) hx hb dL_law_1292 (by decide) ?_
      refine lv_iadd hx hb dL_law_1293 ?_
      refine xl_i (y := nI (i + 3)) (nI_add i 3) ?_
      refine va_sld hx hb hX hbl hbA hS (x_si (k := 3) (by decide) hi hL) dL_law_1294 ?_
      refine xl_i (y := xs (i + 3)) (congrArg xs (x_sc (k := 3) (by decide) hi hL)) ?_
      refine xl_i (y := 0) eq3 ?_
      refine lv_aload_n hx hb dL_law_1295 rfl (lv_at hl 3 rfl) ?_
      refine lv_iload_n hx hb dL_law_1296 rfl (lv_at hl 0 rfl) ?_
      refine lv_iconst (v := 4) hx hb dL_law_1297 (by decide) ?_
      refine lv_iadd hx hb dL_law_1298 ?_
      refine xl_i (y := nI (i + 4)) (nI_add i 4) ?_
      refine va_sld hx hb hX hbl hbA hS (x_si (k := 4) (by decide) hi hL) dL_law_1299 ?_
      refine xl_i (y := xs (i + 4)) (congrArg xs (x_sc (k := 4) (by decide) hi hL)) ?_
      refine lv_aload_n hx hb dL_law_1300 rfl (lv_at hl 3 rfl) ?_
      refine lv_iload_n hx hb dL_law_1301 rfl (lv_at hl 0 rfl) ?_
      refine lv_iconst (v := 5) hx hb dL_law_1302 (by decide) ?_
      refine lv_iadd hx hb dL_law_1303 ?_
      refine xl_i (y := nI (i + 5)) (nI_add i 5) ?_
      refine va_sld hx hb hX hbl hbA hS (x_si (k := 5) (by decide) hi hL) dL_law_1304 ?_
      refine xl_i (y := xs (i + 5)) (congrArg xs (x_sc (k := 5) (by decide) hi hL)) ?_
      refine xc_ViT (wr := [(g0, .inr (9, [.ref m_ys, .ref m_yk, .ref m_yo, .ref m_yt, .int b0, .ref m_yfa, .ref m_yfe, .int m_mL, .int m_mS, .int m_mM, .ref m_yro, .ref m_yhe, .ref m_ygr, .int m_mF, .int m_mC, .int m_mY, .ref m_yta, .int (nI (z)), .int (nI (m_mf)), .int (nI (m_mt)), .int m_mv, .int m_mw, .ref m_ywa, .ref m_ybi, .ref m_ysi, .ref m_ynu, .ref m_ymo])), (m_yt, .inl (cI, 7, .inl m_mq)), (m_ybi, .inl (cI, 4, .inl m_bi)), (m_ysi, .inl (cI, 4, .inl m_sq)), (m_ynu, .inl (cJ, 160, .inr (.inl m_nb))), (m_ymo, .inl (cJ, 40, .inr (.inl m_mv9)))]) hF (c_X8_copy_10 l D cI cJ cZ cS ta sa sv H.size h0 qh qk qd b0 qa qm qs qp ql qt qz qf s0 s1 s2 s3 bt0 sz0 sn0 bt1 sz1 sn1 bt2 sz2 sn2 bt3 sz3 sn3 nu0 nu1 nu2 nu3 ff (xs (i + 2)) (xs (i + 4)) (xs (i + 5)) hsz0 hsz1 hsz2 hsz3) kv_L_166 ⟨rfl, rfl, Nat.le_of_ble_eq_true rfl, Nat.le_of_ble_eq_true rfl⟩ ⟨Nat.le_of_ble_eq_true rfl, Nat.le_of_ble_eq_true rfl⟩ hK hN hZ hP hD hS hA [0, 1, 2, 3, 4, 5, 6, 7, 8, 9, 10] [11, 12, 13, 14, 15, 16] rfl rfl rfl rfl (by decide) 0 rfl rfl rfl rfl hl.1 rfl (Nat.le_of_ble_eq_true rfl) dL_law_1305 (fun r_69 u_r_69 H locs hw_r_69 hP hD hS => ?_)
      obtain ⟨nv_70, f2_71⟩ := u_r_69
      try dsimp only at hw_r_69
      obtain ⟨hw_r_69, i_72⟩ := hw_r_69
      have hP : va_P D vwCl ([(g0, .inr (9, [.ref m_ys, .ref m_yk, .ref m_yo, .ref m_yt, .int b0, .ref m_yfa, .ref m_yfe, .int m_mL, .int m_mS, .int m_mM, .ref m_yro, .ref m_yhe, .ref m_ygr, .int m_mF, .int m_mC, .int m_mY, .ref m_yta, .int (nI (z)), .int (nI (m_mf)), .int (nI (m_mt)), .int m_mv, .int m_mw, .ref m_ywa, .ref m_ybi, .ref m_ysi, .ref m_ynu, .ref m_ymo])), (m_yt, .inl (cI, 7, .inl m_mq)), (m_ybi, .inl (cI, 4, .inl m_bi)), (m_ysi, .inl (cI, 4, .inl m_sq)), (m_ynu, .inl (cJ, 160, .inr (.inl m_nb))), (m_ymo, .inl (cJ, 40, .inr (.inl m_mv9))), (h0, .inr (8, [.ref qh, .ref qk, .ref qd, .int b0, .ref qa, .ref qm, .ref qs, .ref qp, .ref ql, .ref qt, .ref qz, .ref qf])), (qz, .inl (cS, 4, .inr (.inr (.inr (.inr (xSh s0 s1 s2 s3)))))), (s0, .inr (4, [.int bt0, .int (nI (sz0)), .ref sn0])), (s1, .inr (4, [.int bt1, .int (nI (sz1)), .ref sn1])), (s2, .inr (4, [.int bt2, .int (nI (sz2)), .ref sn2])), (s3, .inr (4, [.int bt3, .int (nI (sz3)), .ref sn3])), (sn0, .inl (cJ, 40, .inr (.inl nv_70))), (sn1, .inl (cJ, 40, .inr (.inl nu1))), (sn2, .inl (cJ, 40, .inr (.inl nu2))), (sn3, .inl (cJ, 40, .inr (.inl nu3))), (qf, .inl (cI, 7, .inl f2_71))] ++ tl) H := hP
      have hD : va_D A ([(g0, .inr (9, [.ref m_ys, .ref m_yk, .ref m_yo, .ref m_yt, .int b0, .ref m_yfa, .ref m_yfe, .int m_mL, .int m_mS, .int m_mM, .ref m_yro, .ref m_yhe, .ref m_ygr, .int m_mF, .int m_mC, .int m_mY, .ref m_yta, .int (nI (z)), .int (nI (m_mf)), .int (nI (m_mt)), .int m_mv, .int m_mw, .ref m_ywa, .ref m_ybi, .ref m_ysi, .ref m_ynu, .ref m_ymo])), (m_yt, .inl (cI, 7, .inl m_mq)), (m_ybi, .inl (cI, 4, .inl m_bi)), (m_ysi, .inl (cI, 4, .inl m_sq)), (m_ynu, .inl (cJ, 160, .inr (.inl m_nb))), (m_ymo, .inl (cJ, 40, .inr (.inl m_mv9))), (h0, .inr (8, [.ref qh, .ref qk, .ref qd, .int b0, .ref qa, .ref qm, .ref qs, .ref qp, .ref ql, .ref qt, .ref qz, .ref qf])), (qz, .inl (cS, 4, .inr (.inr (.inr (.inr (xSh s0 s1 s2 s3)))))), (s0, .inr (4, [.int bt0, .int (nI (sz0)), .ref sn0])), (s1, .inr (4, [.int bt1, .int (nI (sz1)), .ref sn1])), (s2, .inr (4, [.int bt2, .int (nI (sz2)), .ref sn2])), (s3, .inr (4, [.int bt3, .int (nI (sz3)), .ref sn3])), (sn0, .inl (cJ, 40, .inr (.inl nv_70))), (sn1, .inl (cJ, 40, .inr (.inl nu1))), (sn2, .inl (cJ, 40, .inr (.inl nu2))), (sn3, .inl (cJ, 40, .inr (.inl nu3))), (qf, .inl (cI, 7, .inl f2_71))] ++ tl) := hD
      subst hw_r_69
      refine lv_pop hx hb dL_law_1308 rfl ?_
      refine lv_aload_n hx hb dL_law_1309 rfl (lv_at hl 1 rfl) ?_
      refine lv_aload_n hx hb dL_law_1310 rfl (lv_at hl 3 rfl) ?_
      refine lv_iload_n hx hb dL_law_1311 rfl (lv_at hl 0 rfl) ?_
      refine lv_iconst (v := 1) hx hb dL_law_1312 (by decide) ?_
      refine lv_iadd hx hb dL_law_1313 ?_
      refine xl_i (y := nI (i + 1)) (nI_add i 1) ?_
      refine va_sld hx hb hX hbl hbA hS (x_si (k := 1) (by decide) hi hL) dL_law_1314 ?_
      refine xl_i (y := xs (i + 1)) (congrArg xs (x_sc (k := 1) (by decide) hi hL)) ?_
      refine xl_i (y := 1) eq1 ?_
      refine lv_aload_n hx hb dL_law_1315 rfl (lv_at hl 3 rfl) ?_
      refine lv_iload_n hx hb dL_law_1316 rfl (lv_at hl 0 rfl) ?_
      refine lv_iconst (v := 2) hx hb dL_law_1317 (by decide) ?_
      refine lv_iadd hx hb dL_law_1318 ?_
      refine xl_i (y := nI (i + 2)) (nI_add i 2) ?_
      refine va_sld hx hb hX hbl hbA hS (x_si (k := 2) (by decide) hi hL) dL_law_1319 ?_
      refine xl_i (y := xs (i + 2)) (congrArg xs (x_sc (k := 2) (by decide) hi hL)) ?_
      refine lv_aload_n hx hb dL_law_1320 rfl (lv_at hl 3 rfl) ?_
      refine lv_iload_n hx hb dL_law_1321 rfl (lv_at hl 0 rfl) ?_
      refine lv_iconst (v := 3) hx hb dL_law_1322 (by decide) ?_
      refine lv_iadd hx hb dL_law_1323 ?_
      refine xl_i (y := nI (i + 3)) (nI_add i 3) ?_
      refine va_sld hx hb hX hbl hbA hS (x_si (k := 3) (by decide) hi hL) dL_law_1324 ?_
      refine xl_i (y := xs (i + 3)) (congrArg xs (x_sc (k := 3) (by decide) hi hL)) ?_
      refine xl_i (y := 0) eq3 ?_
      refine lv_aload_n hx hb dL_law_1325 rfl (lv_at hl 3 rfl) ?_
      refine lv_iload_n hx hb dL_law_1326 rfl (lv_at hl 0 rfl) ?_
      refine lv_iconst (v := 4) hx hb dL_law_1327 (by decide) ?_
      refine lv_iadd hx hb dL_law_1328 ?_
      refine xl_i (y := nI (i + 4)) (nI_add i 4) ?_
      refine va_sld hx hb hX hbl hbA hS (x_si (k := 4) (by decide) hi hL) dL_law_1329 ?_
      refine xl_i (y := xs (i + 4)) (congrArg xs (x_sc (k := 4) (by decide) hi hL)) ?_
      refine lv_aload_n hx hb dL_law_1330 rfl (lv_at hl 3 rfl) ?_
      refine lv_iload_n hx hb dL_law_1331 rfl (lv_at hl 0 rfl) ?_
      refine lv_iconst (v := 5) hx hb dL_law_1332 (by decide) ?_
      refine lv_iadd hx hb dL_law_1333 ?_
      refine xl_i (y := nI (i + 5)) (nI_add i 5) ?_
      refine va_sld hx hb hX hbl hbA hS (x_si (k := 5) (by decide) hi hL) dL_law_1334 ?_
      refine xl_i (y := xs (i + 5)) (congrArg xs (x_sc (k := 5) (by decide) hi hL)) ?_
      refine xc_ViT (wr := [(h0, .inr (8, [.ref qh, .ref qk, .ref qd, .int b0, .ref qa, .ref qm, .ref qs, .ref qp, .ref ql, .ref qt, .ref qz, .ref qf])), (qz, .inl (cS, 4, .inr (.inr (.inr (.inr (xSh s0 s1 s2 s3)))))), (s0, .inr (4, [.int bt0, .int (nI (sz0)), .ref sn0])), (s1, .inr (4, [.int bt1, .int (nI (sz1)), .ref sn1])), (s2, .inr (4, [.int bt2, .int (nI (sz2)), .ref sn2])), (s3, .inr (4, [.int bt3, .int (nI (sz3)), .ref sn3])), (sn0, .inl (cJ, 40, .inr (.inl nv_70))), (sn1, .inl (cJ, 40, .inr (.inl nu1))), (sn2, .inl (cJ, 40, .inr (.inl nu2))), (sn3, .inl (cJ, 40, .inr (.inl nu3))), (qf, .inl (cI, 7, .inl f2_71))]) hF (c_X9_copy_10 l D cI cJ cZ cS ta sa sv H.size g0 m_ys m_yk m_yo m_yt b0 m_yfa m_yfe m_mL m_mS m_mM m_yro m_yhe m_ygr m_mF m_mC m_mY m_yta z m_mf m_mt m_mv m_mw m_ywa m_ybi m_ysi m_ynu m_ymo m_bi m_sq m_nb m_mv9 m_mq (xs (i + 2)) (xs (i + 4)) (xs (i + 5)) sz1 sz0 r_z1 hsz1 r_z0 hsz0 m_hsq) kv_L_170 ⟨rfl, rfl, Nat.le_of_ble_eq_true rfl, Nat.le_of_ble_eq_true rfl⟩ ⟨Nat.le_of_ble_eq_true rfl, Nat.le_of_ble_eq_true rfl⟩ hK hN hZ hP hD hS hA [0, 2, 3, 4, 5, 1] [6, 7, 8, 9, 10, 11, 12, 13, 14, 15, 16] rfl rfl rfl rfl (by decide) 0 rfl rfl rfl rfl hl.1 rfl (Nat.le_of_ble_eq_true rfl) dL_law_1335 (fun r_73 u_r_73 H locs hw_r_73 hP hD hS => ?_)
      obtain ⟨nb2_74, mv2_75, mq2_76⟩ := u_r_73
      try dsimp only at hw_r_73
      obtain ⟨hw_r_73, i_77, i_78⟩ := hw_r_73
      have hP : va_P D vwCl ([(h0, .inr (8, [.ref qh, .ref qk, .ref qd, .int b0, .ref qa, .ref qm, .ref qs, .ref qp, .ref ql, .ref qt, .ref qz, .ref qf])), (qz, .inl (cS, 4, .inr (.inr (.inr (.inr (xSh s0 s1 s2 s3)))))), (s0, .inr (4, [.int bt0, .int (nI (sz0)), .ref sn0])), (s1, .inr (4, [.int bt1, .int (nI (sz1)), .ref sn1])), (s2, .inr (4, [.int bt2, .int (nI (sz2)), .ref sn2])), (s3, .inr (4, [.int bt3, .int (nI (sz3)), .ref sn3])), (sn0, .inl (cJ, 40, .inr (.inl nv_70))), (sn1, .inl (cJ, 40, .inr (.inl nu1))), (sn2, .inl (cJ, 40, .inr (.inl nu2))), (sn3, .inl (cJ, 40, .inr (.inl nu3))), (qf, .inl (cI, 7, .inl f2_71)), (g0, .inr (9, [.ref m_ys, .ref m_yk, .ref m_yo, .ref m_yt, .int b0, .ref m_yfa, .ref m_yfe, .int m_mL, .int m_mS, .int m_mM, .ref m_yro, .ref m_yhe, .ref m_ygr, .int m_mF, .int m_mC, .int m_mY, .ref m_yta, .int (nI (z)), .int (nI (m_mf)), .int (nI (m_mt)), .int m_mv, .int m_mw, .ref m_ywa, .ref m_ybi, .ref m_ysi, .ref m_ynu, .ref m_ymo])), (m_ybi, .inl (cI, 4, .inl m_bi)), (m_ysi, .inl (cI, 4, .inl m_sq)), (m_ynu, .inl (cJ, 160, .inr (.inl nb2_74))), (m_ymo, .inl (cJ, 40, .inr (.inl mv2_75))), (m_yt, .inl (cI, 7, .inl mq2_76))] ++ tl) H := hP
      have hD : va_D A ([(h0, .inr (8, [.ref qh, .ref qk, .ref qd, .int b0, .ref qa, .ref qm, .ref qs, .ref qp, .ref ql, .ref qt, .ref qz, .ref qf])), (qz, .inl (cS, 4, .inr (.inr (.inr (.inr (xSh s0 s1 s2 s3)))))), (s0, .inr (4, [.int bt0, .int (nI (sz0)), .ref sn0])), (s1, .inr (4, [.int bt1, .int (nI (sz1)), .ref sn1])), (s2, .inr (4, [.int bt2, .int (nI (sz2)), .ref sn2])), (s3, .inr (4, [.int bt3, .int (nI (sz3)), .ref sn3])), (sn0, .inl (cJ, 40, .inr (.inl nv_70))), (sn1, .inl (cJ, 40, .inr (.inl nu1))), (sn2, .inl (cJ, 40, .inr (.inl nu2))), (sn3, .inl (cJ, 40, .inr (.inl nu3))), (qf, .inl (cI, 7, .inl f2_71)), (g0, .inr (9, [.ref m_ys, .ref m_yk, .ref m_yo, .ref m_yt, .int b0, .ref m_yfa, .ref m_yfe, .int m_mL, .int m_mS, .int m_mM, .ref m_yro, .ref m_yhe, .ref m_ygr, .int m_mF, .int m_mC, .int m_mY, .ref m_yta, .int (nI (z)), .int (nI (m_mf)), .int (nI (m_mt)), .int m_mv, .int m_mw, .ref m_ywa, .ref m_ybi, .ref m_ysi, .ref m_ynu, .ref m_ymo])), (m_ybi, .inl (cI, 4, .inl m_bi)), (m_ysi, .inl (cI, 4, .inl m_sq)), (m_ynu, .inl (cJ, 160, .inr (.inl nb2_74))), (m_ymo, .inl (cJ, 40, .inr (.inl mv2_75))), (m_yt, .inl (cI, 7, .inl mq2_76))] ++ tl) := hD
      subst hw_r_73
      refine lv_pop hx hb dL_law_1338 rfl ?_
      refine lv_goto (tgt := 1483) hx hb dL_law_1339 (by decide) ?_
      exact kkx _ _ _ nv_70 nu1 nu2 nu3 f2_71 mq2_76 nb2_74 mv2_75 (xt_P hP [0, 1, 2, 3, 4, 5, 6, 7, 8, 9, 10, 11, 16, 12, 13, 14, 15] rfl) (xt_D hD [0, 1, 2, 3, 4, 5, 6, 7, 8, 9, 10, 11, 16, 12, 13, 14, 15] (by decide +kernel) rfl) (fun j hj => (i_77 j).trans ((sp_cneq r_b1 r_b0 r_n1 (by omega) (r_n0 j hj)).trans (i_72 j).symm)) (fun j hj => (i_78 (40 + j) (by omega)).trans (r_n1 j hj)) (fun j hj => (i_78 (80 + j) (by omega)).trans (r_n2 j hj)) (fun j hj => (i_78 (120 + j) (by omega)).trans (r_n3 j hj)) hS hl
    · skip
      refine lv_aload_n hx hb dL_law_1280 rfl (lv_at hl 3 rfl) ?_
      refine lv_iload_n hx hb dL_law_1281 rfl (lv_at hl 0 rfl) ?_
      refine lv_iconst (v := 1) hx hb dL_law_1282 (by decide) ?_
      refine lv_iadd hx hb dL_law_1283 ?_
      refine xl_i (y := nI (i + 1)) (nI_add i 1) ?_
      refine va_sld hx hb hX hbl hbA hS (x_si (k := 1) (by decide) hi hL) dL_law_1284 ?_
      refine xl_i (y := xs (i + 1)) (congrArg xs (x_sc (k := 1) (by decide) hi hL)) ?_
      refine xl_i (y := 1) eq1 ?_
      refine lv_aload_n hx hb dL_law_1285 rfl (lv_at hl 3 rfl) ?_
      refine lv_iload_n hx hb dL_law_1286 rfl (lv_at hl 0 rfl) ?_
      refine lv_iconst (v := 2) hx hb dL_law_1287 (by decide) ?_
      refine lv_iadd hx hb dL_law_1288 ?_
      refine xl_i (y := nI (i + 2)) (nI_add i 2) ?_
      refine va_sld hx hb hX hbl hbA hS (x_si (k := 2) (by decide) hi hL) dL_law_1289 ?_
      refine xl_i (y := xs (i + 2)) (congrArg xs (x_sc (k := 2) (by decide) hi hL)) ?_
      refine lv_aload_n hx hb dL_law_1290 rfl (lv_at hl 3 rfl) ?_
      refine lv_iload_n hx hb dL_law_1291 rfl (lv_at hl 0 rfl) ?_
      refine lv_iconst (v := 3) hx hb dL_law_1292 (by decide) ?_
      refine lv_iadd hx hb dL_law_1293 ?_
      refine xl_i (y := nI (i + 3)) (nI_add i 3) ?_
      refine va_sld hx hb hX hbl hbA hS (x_si (k := 3) (by decide) hi hL) dL_law_1294 ?_
      refine xl_i (y := xs (i + 3)) (congrArg xs (x_sc (k := 3) (by decide) hi hL)) ?_
      refine xl_i (y := 1) eq3 ?_
      refine lv_aload_n hx hb dL_law_1295 rfl (lv_at hl 3 rfl) ?_
      refine lv_iload_n hx hb dL_law_1296 rfl (lv_at hl 0 rfl) ?_
      refine lv_iconst (v := 4) hx hb dL_law_1297 (by decide) ?_
      refine lv_iadd hx hb dL_law_1298 ?_
      refine xl_i (y := nI (i + 4)) (nI_add i 4) ?_
      refine va_sld hx hb hX hbl hbA hS (x_si (k := 4) (by decide) hi hL) dL_law_1299 ?_
      refine xl_i (y := xs (i + 4)) (congrArg xs (x_sc (k := 4) (by decide) hi hL)) ?_
      refine lv_aload_n hx hb dL_law_1300 rfl (lv_at hl 3 rfl) ?_
      refine lv_iload_n hx hb dL_law_1301 rfl (lv_at hl 0 rfl) ?_
      refine lv_iconst (v := 5) hx hb dL_law_1302 (by decide) ?_
      refine lv_iadd hx hb dL_law_1303 ?_
      refine xl_i (y := nI (i + 5)) (nI_add i 5) ?_
      refine va_sld hx hb hX hbl hbA hS (x_si (k := 5) (by decide) hi hL) dL_law_1304 ?_
      refine xl_i (y := xs (i + 5)) (congrArg xs (x_sc (k := 5) (by decide) hi hL)) ?_
      refine xc_ViT (wr := [(g0, .inr (9, [.ref m_ys, .ref m_yk, .ref m_yo, .ref m_yt, .int b0, .ref m_yfa, .ref m_yfe, .int m_mL, .int m_mS, .int m_mM, .ref m_yro, .ref m_yhe, .ref m_ygr, .int m_mF, .int m_mC, .int m_mY, .ref m_yta, .int (nI (z)), .int (nI (m_mf)), .int (nI (m_mt)), .int m_mv, .int m_mw, .ref m_ywa, .ref m_ybi, .ref m_ysi, .ref m_ynu, .ref m_ymo])), (m_yt, .inl (cI, 7, .inl m_mq)), (m_ybi, .inl (cI, 4, .inl m_bi)), (m_ysi, .inl (cI, 4, .inl m_sq)), (m_ynu, .inl (cJ, 160, .inr (.inl m_nb))), (m_ymo, .inl (cJ, 40, .inr (.inl m_mv9)))]) hF (c_X8_copy_11 l D cI cJ cZ cS ta sa sv H.size h0 qh qk qd b0 qa qm qs qp ql qt qz qf s0 s1 s2 s3 bt0 sz0 sn0 bt1 sz1 sn1 bt2 sz2 sn2 bt3 sz3 sn3 nu0 nu1 nu2 nu3 ff (xs (i + 2)) (xs (i + 4)) (xs (i + 5)) hsz0 hsz1 hsz2 hsz3) kv_L_166 ⟨rfl, rfl, Nat.le_of_ble_eq_true rfl, Nat.le_of_ble_eq_true rfl⟩ ⟨Nat.le_of_ble_eq_true rfl, Nat.le_of_ble_eq_true rfl⟩ hK hN hZ hP hD hS hA [0, 1, 2, 3, 4, 5, 6, 7, 8, 9, 10] [11, 12, 13, 14, 15, 16] rfl rfl rfl rfl (by decide) 0 rfl rfl rfl rfl hl.1 rfl (Nat.le_of_ble_eq_true rfl) dL_law_1305 (fun r_79 u_r_79 H locs hw_r_79 hP hD hS => ?_)
      obtain ⟨nv_80, f2_81⟩ := u_r_79
      try dsimp only at hw_r_79
      obtain ⟨hw_r_79, i_82⟩ := hw_r_79
      have hP : va_P D vwCl ([(g0, .inr (9, [.ref m_ys, .ref m_yk, .ref m_yo, .ref m_yt, .int b0, .ref m_yfa, .ref m_yfe, .int m_mL, .int m_mS, .int m_mM, .ref m_yro, .ref m_yhe, .ref m_ygr, .int m_mF, .int m_mC, .int m_mY, .ref m_yta, .int (nI (z)), .int (nI (m_mf)), .int (nI (m_mt)), .int m_mv, .int m_mw, .ref m_ywa, .ref m_ybi, .ref m_ysi, .ref m_ynu, .ref m_ymo])), (m_yt, .inl (cI, 7, .inl m_mq)), (m_ybi, .inl (cI, 4, .inl m_bi)), (m_ysi, .inl (cI, 4, .inl m_sq)), (m_ynu, .inl (cJ, 160, .inr (.inl m_nb))), (m_ymo, .inl (cJ, 40, .inr (.inl m_mv9))), (h0, .inr (8, [.ref qh, .ref qk, .ref qd, .int b0, .ref qa, .ref qm, .ref qs, .ref qp, .ref ql, .ref qt, .ref qz, .ref qf])), (qz, .inl (cS, 4, .inr (.inr (.inr (.inr (xSh s0 s1 s2 s3)))))), (s0, .inr (4, [.int bt0, .int (nI (sz0)), .ref sn0])), (s1, .inr (4, [.int bt1, .int (nI (sz1)), .ref sn1])), (s2, .inr (4, [.int bt2, .int (nI (sz2)), .ref sn2])), (s3, .inr (4, [.int bt3, .int (nI (sz3)), .ref sn3])), (sn0, .inl (cJ, 40, .inr (.inl nu0))), (sn1, .inl (cJ, 40, .inr (.inl nv_80))), (sn2, .inl (cJ, 40, .inr (.inl nu2))), (sn3, .inl (cJ, 40, .inr (.inl nu3))), (qf, .inl (cI, 7, .inl f2_81))] ++ tl) H := hP
      have hD : va_D A ([(g0, .inr (9, [.ref m_ys, .ref m_yk, .ref m_yo, .ref m_yt, .int b0, .ref m_yfa, .ref m_yfe, .int m_mL, .int m_mS, .int m_mM, .ref m_yro, .ref m_yhe, .ref m_ygr, .int m_mF, .int m_mC, .int m_mY, .ref m_yta, .int (nI (z)), .int (nI (m_mf)), .int (nI (m_mt)), .int m_mv, .int m_mw, .ref m_ywa, .ref m_ybi, .ref m_ysi, .ref m_ynu, .ref m_ymo])), (m_yt, .inl (cI, 7, .inl m_mq)), (m_ybi, .inl (cI, 4, .inl m_bi)), (m_ysi, .inl (cI, 4, .inl m_sq)), (m_ynu, .inl (cJ, 160, .inr (.inl m_nb))), (m_ymo, .inl (cJ, 40, .inr (.inl m_mv9))), (h0, .inr (8, [.ref qh, .ref qk, .ref qd, .int b0, .ref qa, .ref qm, .ref qs, .ref qp, .ref ql, .ref qt, .ref qz, .ref qf])), (qz, .inl (cS, 4, .inr (.inr (.inr (.inr (xSh s0 s1 s2 s3)))))), (s0, .inr (4, [.int bt0, .int (nI (sz0)), .ref sn0])), (s1, .inr (4, [.int bt1, .int (nI (sz1)), .ref sn1])), (s2, .inr (4, [.int bt2, .int (nI (sz2)), .ref sn2])), (s3, .inr (4, [.int bt3, .int (nI (sz3)), .ref sn3])), (sn0, .inl (cJ, 40, .inr (.inl nu0))), (sn1, .inl (cJ, 40, .inr (.inl nv_80))), (sn2, .inl (cJ, 40, .inr (.inl nu2))), (sn3, .inl (cJ, 40, .inr (.inl nu3))), (qf, .inl (cI, 7, .inl f2_81))] ++ tl) := hD
      subst hw_r_79
      refine lv_pop hx hb dL_law_1308 rfl ?_
      refine lv_aload_n hx hb dL_law_1309 rfl (lv_at hl 1 rfl) ?_
      refine lv_aload_n hx hb dL_law_1310 rfl (lv_at hl 3 rfl) ?_
      refine lv_iload_n hx hb dL_law_1311 rfl (lv_at hl 0 rfl) ?_
      refine lv_iconst (v := 1) hx hb dL_law_1312 (by decide) ?_
      refine lv_iadd hx hb dL_law_1313 ?_
      refine xl_i (y := nI (i + 1)) (nI_add i 1) ?_
      refine va_sld hx hb hX hbl hbA hS (x_si (k := 1) (by decide) hi hL) dL_law_1314 ?_
      refine xl_i (y := xs (i + 1)) (congrArg xs (x_sc (k := 1) (by decide) hi hL)) ?_
      refine xl_i (y := 1) eq1 ?_
      refine lv_aload_n hx hb dL_law_1315 rfl (lv_at hl 3 rfl) ?_
      refine lv_iload_n hx hb dL_law_1316 rfl (lv_at hl 0 rfl) ?_
      refine lv_iconst (v := 2) hx hb dL_law_1317 (by decide) ?_
      refine lv_iadd hx hb dL_law_1318 ?_
      refine xl_i (y := nI (i + 2)) (nI_add i 2) ?_
      refine va_sld hx hb hX hbl hbA hS (x_si (k := 2) (by decide) hi hL) dL_law_1319 ?_
      refine xl_i (y := xs (i + 2)) (congrArg xs (x_sc (k := 2) (by decide) hi hL)) ?_
      refine lv_aload_n hx hb dL_law_1320 rfl (lv_at hl 3 rfl) ?_
      refine lv_iload_n hx hb dL_law_1321 rfl (lv_at hl 0 rfl) ?_
      refine lv_iconst (v := 3) hx hb dL_law_1322 (by decide) ?_
      refine lv_iadd hx hb dL_law_1323 ?_
      refine xl_i (y := nI (i + 3)) (nI_add i 3) ?_
      refine va_sld hx hb hX hbl hbA hS (x_si (k := 3) (by decide) hi hL) dL_law_1324 ?_
      refine xl_i (y := xs (i + 3)) (congrArg xs (x_sc (k := 3) (by decide) hi hL)) ?_
      refine xl_i (y := 1) eq3 ?_
      refine lv_aload_n hx hb dL_law_1325 rfl (lv_at hl 3 rfl) ?_
      refine lv_iload_n hx hb dL_law_1326 rfl (lv_at hl 0 rfl) ?_
      refine lv_iconst (v := 4) hx hb dL_law_1327 (by decide) ?_
      refine lv_iadd hx hb dL_law_1328 ?_
      refine xl_i (y := nI (i + 4)) (nI_add i 4) ?_
      refine va_sld hx hb hX hbl hbA hS (x_si (k := 4) (by decide) hi hL) dL_law_1329 ?_
      refine xl_i (y := xs (i + 4)) (congrArg xs (x_sc (k := 4) (by decide) hi hL)) ?_
      refine lv_aload_n hx hb dL_law_1330 rfl (lv_at hl 3 rfl) ?_
      refine lv_iload_n hx hb dL_law_1331 rfl (lv_at hl 0 rfl) ?_
      refine lv_iconst (v := 5) hx hb dL_law_1332 (by decide) ?_
      refine lv_iadd hx hb dL_law_1333 ?_
      refine xl_i (y := nI (i + 5)) (nI_add i 5) ?_
      refine va_sld hx hb hX hbl hbA hS (x_si (k := 5) (by decide) hi hL) dL_law_1334 ?_
      refine xl_i (y := xs (i + 5)) (congrArg xs (x_sc (k := 5) (by decide) hi hL)) ?_
      refine xc_ViT (wr := [(h0, .inr (8, [.ref qh, .ref qk, .ref qd, .int b0, .ref qa, .ref qm, .ref qs, .ref qp, .ref ql, .ref qt, .ref qz, .ref qf])), (qz, .inl (cS, 4, .inr (.inr (.inr (.inr (xSh s0 s1 s2 s3)))))), (s0, .inr (4, [.int bt0, .int (nI (sz0)), .ref sn0])), (s1, .inr (4, [.int bt1, .int (nI (sz1)), .ref sn1])), (s2, .inr (4, [.int bt2, .int (nI (sz2)), .ref sn2])), (s3, .inr (4, [.int bt3, .int (nI (sz3)), .ref sn3])), (sn0, .inl (cJ, 40, .inr (.inl nu0))), (sn1, .inl (cJ, 40, .inr (.inl nv_80))), (sn2, .inl (cJ, 40, .inr (.inl nu2))), (sn3, .inl (cJ, 40, .inr (.inl nu3))), (qf, .inl (cI, 7, .inl f2_81))]) hF (c_X9_copy_11 l D cI cJ cZ cS ta sa sv H.size g0 m_ys m_yk m_yo m_yt b0 m_yfa m_yfe m_mL m_mS m_mM m_yro m_yhe m_ygr m_mF m_mC m_mY m_yta z m_mf m_mt m_mv m_mw m_ywa m_ybi m_ysi m_ynu m_ymo m_bi m_sq m_nb m_mv9 m_mq (xs (i + 2)) (xs (i + 4)) (xs (i + 5)) sz1 sz1 r_z1 hsz1 r_z1 hsz1 m_hsq) kv_L_170 ⟨rfl, rfl, Nat.le_of_ble_eq_true rfl, Nat.le_of_ble_eq_true rfl⟩ ⟨Nat.le_of_ble_eq_true rfl, Nat.le_of_ble_eq_true rfl⟩ hK hN hZ hP hD hS hA [0, 2, 3, 4, 5, 1] [6, 7, 8, 9, 10, 11, 12, 13, 14, 15, 16] rfl rfl rfl rfl (by decide) 0 rfl rfl rfl rfl hl.1 rfl (Nat.le_of_ble_eq_true rfl) dL_law_1335 (fun r_83 u_r_83 H locs hw_r_83 hP hD hS => ?_)
      obtain ⟨nb2_84, mv2_85, mq2_86⟩ := u_r_83
      try dsimp only at hw_r_83
      obtain ⟨hw_r_83, i_87, i_88⟩ := hw_r_83
      have hP : va_P D vwCl ([(h0, .inr (8, [.ref qh, .ref qk, .ref qd, .int b0, .ref qa, .ref qm, .ref qs, .ref qp, .ref ql, .ref qt, .ref qz, .ref qf])), (qz, .inl (cS, 4, .inr (.inr (.inr (.inr (xSh s0 s1 s2 s3)))))), (s0, .inr (4, [.int bt0, .int (nI (sz0)), .ref sn0])), (s1, .inr (4, [.int bt1, .int (nI (sz1)), .ref sn1])), (s2, .inr (4, [.int bt2, .int (nI (sz2)), .ref sn2])), (s3, .inr (4, [.int bt3, .int (nI (sz3)), .ref sn3])), (sn0, .inl (cJ, 40, .inr (.inl nu0))), (sn1, .inl (cJ, 40, .inr (.inl nv_80))), (sn2, .inl (cJ, 40, .inr (.inl nu2))), (sn3, .inl (cJ, 40, .inr (.inl nu3))), (qf, .inl (cI, 7, .inl f2_81)), (g0, .inr (9, [.ref m_ys, .ref m_yk, .ref m_yo, .ref m_yt, .int b0, .ref m_yfa, .ref m_yfe, .int m_mL, .int m_mS, .int m_mM, .ref m_yro, .ref m_yhe, .ref m_ygr, .int m_mF, .int m_mC, .int m_mY, .ref m_yta, .int (nI (z)), .int (nI (m_mf)), .int (nI (m_mt)), .int m_mv, .int m_mw, .ref m_ywa, .ref m_ybi, .ref m_ysi, .ref m_ynu, .ref m_ymo])), (m_ybi, .inl (cI, 4, .inl m_bi)), (m_ysi, .inl (cI, 4, .inl m_sq)), (m_ynu, .inl (cJ, 160, .inr (.inl nb2_84))), (m_ymo, .inl (cJ, 40, .inr (.inl mv2_85))), (m_yt, .inl (cI, 7, .inl mq2_86))] ++ tl) H := hP
      have hD : va_D A ([(h0, .inr (8, [.ref qh, .ref qk, .ref qd, .int b0, .ref qa, .ref qm, .ref qs, .ref qp, .ref ql, .ref qt, .ref qz, .ref qf])), (qz, .inl (cS, 4, .inr (.inr (.inr (.inr (xSh s0 s1 s2 s3)))))), (s0, .inr (4, [.int bt0, .int (nI (sz0)), .ref sn0])), (s1, .inr (4, [.int bt1, .int (nI (sz1)), .ref sn1])), (s2, .inr (4, [.int bt2, .int (nI (sz2)), .ref sn2])), (s3, .inr (4, [.int bt3, .int (nI (sz3)), .ref sn3])), (sn0, .inl (cJ, 40, .inr (.inl nu0))), (sn1, .inl (cJ, 40, .inr (.inl nv_80))), (sn2, .inl (cJ, 40, .inr (.inl nu2))), (sn3, .inl (cJ, 40, .inr (.inl nu3))), (qf, .inl (cI, 7, .inl f2_81)), (g0, .inr (9, [.ref m_ys, .ref m_yk, .ref m_yo, .ref m_yt, .int b0, .ref m_yfa, .ref m_yfe, .int m_mL, .int m_mS, .int m_mM, .ref m_yro, .ref m_yhe, .ref m_ygr, .int m_mF, .int m_mC, .int m_mY, .ref m_yta, .int (nI (z)), .int (nI (m_mf)), .int (nI (m_mt)), .int m_mv, .int m_mw, .ref m_ywa, .ref m_ybi, .ref m_ysi, .ref m_ynu, .ref m_ymo])), (m_ybi, .inl (cI, 4, .inl m_bi)), (m_ysi, .inl (cI, 4, .inl m_sq)), (m_ynu, .inl (cJ, 160, .inr (.inl nb2_84))), (m_ymo, .inl (cJ, 40, .inr (.inl mv2_85))), (m_yt, .inl (cI, 7, .inl mq2_86))] ++ tl) := hD
      subst hw_r_83
      refine lv_pop hx hb dL_law_1338 rfl ?_
      refine lv_goto (tgt := 1483) hx hb dL_law_1339 (by decide) ?_
      exact kkx _ _ _ nu0 nv_80 nu2 nu3 f2_81 mq2_86 nb2_84 mv2_85 (xt_P hP [0, 1, 2, 3, 4, 5, 6, 7, 8, 9, 10, 11, 16, 12, 13, 14, 15] rfl) (xt_D hD [0, 1, 2, 3, 4, 5, 6, 7, 8, 9, 10, 11, 16, 12, 13, 14, 15] (by decide +kernel) rfl) (fun j hj => (i_88 (0 + j) (by omega)).trans (r_n0 j hj)) (fun j hj => (i_87 j).trans ((sp_cneq r_b1 r_b1 r_n1 (by omega) (r_n1 j hj)).trans (i_82 j).symm)) (fun j hj => (i_88 (80 + j) (by omega)).trans (r_n2 j hj)) (fun j hj => (i_88 (120 + j) (by omega)).trans (r_n3 j hj)) hS hl
    · skip
      refine lv_aload_n hx hb dL_law_1280 rfl (lv_at hl 3 rfl) ?_
      refine lv_iload_n hx hb dL_law_1281 rfl (lv_at hl 0 rfl) ?_
      refine lv_iconst (v := 1) hx hb dL_law_1282 (by decide) ?_
      refine lv_iadd hx hb dL_law_1283 ?_
      refine xl_i (y := nI (i + 1)) (nI_add i 1) ?_
      refine va_sld hx hb hX hbl hbA hS (x_si (k := 1) (by decide) hi hL) dL_law_1284 ?_
      refine xl_i (y := xs (i + 1)) (congrArg xs (x_sc (k := 1) (by decide) hi hL)) ?_
      refine xl_i (y := 1) eq1 ?_
      refine lv_aload_n hx hb dL_law_1285 rfl (lv_at hl 3 rfl) ?_
      refine lv_iload_n hx hb dL_law_1286 rfl (lv_at hl 0 rfl) ?_
      refine lv_iconst (v := 2) hx hb dL_law_1287 (by decide) ?_
      refine lv_iadd hx hb dL_law_1288 ?_
      refine xl_i (y := nI (i + 2)) (nI_add i 2) ?_
      refine va_sld hx hb hX hbl hbA hS (x_si (k := 2) (by decide) hi hL) dL_law_1289 ?_
      refine xl_i (y := xs (i + 2)) (congrArg xs (x_sc (k := 2) (by decide) hi hL)) ?_
      refine lv_aload_n hx hb dL_law_1290 rfl (lv_at hl 3 rfl) ?_
      refine lv_iload_n hx hb dL_law_1291 rfl (lv_at hl 0 rfl) ?_
      refine lv_iconst (v := 3) hx hb dL_law_1292 (by decide) ?_
      refine lv_iadd hx hb dL_law_1293 ?_
      refine xl_i (y := nI (i + 3)) (nI_add i 3) ?_
      refine va_sld hx hb hX hbl hbA hS (x_si (k := 3) (by decide) hi hL) dL_law_1294 ?_
      refine xl_i (y := xs (i + 3)) (congrArg xs (x_sc (k := 3) (by decide) hi hL)) ?_
      refine xl_i (y := 2) eq3 ?_
      refine lv_aload_n hx hb dL_law_1295 rfl (lv_at hl 3 rfl) ?_
      refine lv_iload_n hx hb dL_law_1296 rfl (lv_at hl 0 rfl) ?_
      refine lv_iconst (v := 4) hx hb dL_law_1297 (by decide) ?_
      refine lv_iadd hx hb dL_law_1298 ?_
      refine xl_i (y := nI (i + 4)) (nI_add i 4) ?_
      refine va_sld hx hb hX hbl hbA hS (x_si (k := 4) (by decide) hi hL) dL_law_1299 ?_
      refine xl_i (y := xs (i + 4)) (congrArg xs (x_sc (k := 4) (by decide) hi hL)) ?_
      refine lv_aload_n hx hb dL_law_1300 rfl (lv_at hl 3 rfl) ?_
      refine lv_iload_n hx hb dL_law_1301 rfl (lv_at hl 0 rfl) ?_
      refine lv_iconst (v := 5) hx hb dL_law_1302 (by decide) ?_
      refine lv_iadd hx hb dL_law_1303 ?_
      refine xl_i (y := nI (i + 5)) (nI_add i 5) ?_
      refine va_sld hx hb hX hbl hbA hS (x_si (k := 5) (by decide) hi hL) dL_law_1304 ?_
      refine xl_i (y := xs (i + 5)) (congrArg xs (x_sc (k := 5) (by decide) hi hL)) ?_
      refine xc_ViT (wr := [(g0, .inr (9, [.ref m_ys, .ref m_yk, .ref m_yo, .ref m_yt, .int b0, .ref m_yfa, .ref m_yfe, .int m_mL, .int m_mS, .int m_mM, .ref m_yro, .ref m_yhe, .ref m_ygr, .int m_mF, .int m_mC, .int m_mY, .ref m_yta, .int (nI (z)), .int (nI (m_mf)), .int (nI (m_mt)), .int m_mv, .int m_mw, .ref m_ywa, .ref m_ybi, .ref m_ysi, .ref m_ynu, .ref m_ymo])), (m_yt, .inl (cI, 7, .inl m_mq)), (m_ybi, .inl (cI, 4, .inl m_bi)), (m_ysi, .inl (cI, 4, .inl m_sq)), (m_ynu, .inl (cJ, 160, .inr (.inl m_nb))), (m_ymo, .inl (cJ, 40, .inr (.inl m_mv9)))]) hF (c_X8_copy_12 l D cI cJ cZ cS ta sa sv H.size h0 qh qk qd b0 qa qm qs qp ql qt qz qf s0 s1 s2 s3 bt0 sz0 sn0 bt1 sz1 sn1 bt2 sz2 sn2 bt3 sz3 sn3 nu0 nu1 nu2 nu3 ff (xs (i + 2)) (xs (i + 4)) (xs (i + 5)) hsz0 hsz1 hsz2 hsz3) kv_L_166 ⟨rfl, rfl, Nat.le_of_ble_eq_true rfl, Nat.le_of_ble_eq_true rfl⟩ ⟨Nat.le_of_ble_eq_true rfl, Nat.le_of_ble_eq_true rfl⟩ hK hN hZ hP hD hS hA [0, 1, 2, 3, 4, 5, 6, 7, 8, 9, 10] [11, 12, 13, 14, 15, 16] rfl rfl rfl rfl (by decide) 0 rfl rfl rfl rfl hl.1 rfl (Nat.le_of_ble_eq_true rfl) dL_law_1305 (fun r_89 u_r_89 H locs hw_r_89 hP hD hS => ?_)
      obtain ⟨nv_90, f2_91⟩ := u_r_89
      try dsimp only at hw_r_89
      obtain ⟨hw_r_89, i_92⟩ := hw_r_89
      have hP : va_P D vwCl ([(g0, .inr (9, [.ref m_ys, .ref m_yk, .ref m_yo, .ref m_yt, .int b0, .ref m_yfa, .ref m_yfe, .int m_mL, .int m_mS, .int m_mM, .ref m_yro, .ref m_yhe, .ref m_ygr, .int m_mF, .int m_mC, .int m_mY, .ref m_yta, .int (nI (z)), .int (nI (m_mf)), .int (nI (m_mt)), .int m_mv, .int m_mw, .ref m_ywa, .ref m_ybi, .ref m_ysi, .ref m_ynu, .ref m_ymo])), (m_yt, .inl (cI, 7, .inl m_mq)), (m_ybi, .inl (cI, 4, .inl m_bi)), (m_ysi, .inl (cI, 4, .inl m_sq)), (m_ynu, .inl (cJ, 160, .inr (.inl m_nb))), (m_ymo, .inl (cJ, 40, .inr (.inl m_mv9))), (h0, .inr (8, [.ref qh, .ref qk, .ref qd, .int b0, .ref qa, .ref qm, .ref qs, .ref qp, .ref ql, .ref qt, .ref qz, .ref qf])), (qz, .inl (cS, 4, .inr (.inr (.inr (.inr (xSh s0 s1 s2 s3)))))), (s0, .inr (4, [.int bt0, .int (nI (sz0)), .ref sn0])), (s1, .inr (4, [.int bt1, .int (nI (sz1)), .ref sn1])), (s2, .inr (4, [.int bt2, .int (nI (sz2)), .ref sn2])), (s3, .inr (4, [.int bt3, .int (nI (sz3)), .ref sn3])), (sn0, .inl (cJ, 40, .inr (.inl nu0))), (sn1, .inl (cJ, 40, .inr (.inl nu1))), (sn2, .inl (cJ, 40, .inr (.inl nv_90))), (sn3, .inl (cJ, 40, .inr (.inl nu3))), (qf, .inl (cI, 7, .inl f2_91))] ++ tl) H := hP
      have hD : va_D A ([(g0, .inr (9, [.ref m_ys, .ref m_yk, .ref m_yo, .ref m_yt, .int b0, .ref m_yfa, .ref m_yfe, .int m_mL, .int m_mS, .int m_mM, .ref m_yro, .ref m_yhe, .ref m_ygr, .int m_mF, .int m_mC, .int m_mY, .ref m_yta, .int (nI (z)), .int (nI (m_mf)), .int (nI (m_mt)), .int m_mv, .int m_mw, .ref m_ywa, .ref m_ybi, .ref m_ysi, .ref m_ynu, .ref m_ymo])), (m_yt, .inl (cI, 7, .inl m_mq)), (m_ybi, .inl (cI, 4, .inl m_bi)), (m_ysi, .inl (cI, 4, .inl m_sq)), (m_ynu, .inl (cJ, 160, .inr (.inl m_nb))), (m_ymo, .inl (cJ, 40, .inr (.inl m_mv9))), (h0, .inr (8, [.ref qh, .ref qk, .ref qd, .int b0, .ref qa, .ref qm, .ref qs, .ref qp, .ref ql, .ref qt, .ref qz, .ref qf])), (qz, .inl (cS, 4, .inr (.inr (.inr (.inr (xSh s0 s1 s2 s3)))))), (s0, .inr (4, [.int bt0, .int (nI (sz0)), .ref sn0])), (s1, .inr (4, [.int bt1, .int (nI (sz1)), .ref sn1])), (s2, .inr (4, [.int bt2, .int (nI (sz2)), .ref sn2])), (s3, .inr (4, [.int bt3, .int (nI (sz3)), .ref sn3])), (sn0, .inl (cJ, 40, .inr (.inl nu0))), (sn1, .inl (cJ, 40, .inr (.inl nu1))), (sn2, .inl (cJ, 40, .inr (.inl nv_90))), (sn3, .inl (cJ, 40, .inr (.inl nu3))), (qf, .inl (cI, 7, .inl f2_91))] ++ tl) := hD
      subst hw_r_89
      refine lv_pop hx hb dL_law_1308 rfl ?_
      refine lv_aload_n hx hb dL_law_1309 rfl (lv_at hl 1 rfl) ?_
      refine lv_aload_n hx hb dL_law_1310 rfl (lv_at hl 3 rfl) ?_
      refine lv_iload_n hx hb dL_law_1311 rfl (lv_at hl 0 rfl) ?_
      refine lv_iconst (v := 1) hx hb dL_law_1312 (by decide) ?_
      refine lv_iadd hx hb dL_law_1313 ?_
      refine xl_i (y := nI (i + 1)) (nI_add i 1) ?_
      refine va_sld hx hb hX hbl hbA hS (x_si (k := 1) (by decide) hi hL) dL_law_1314 ?_
      refine xl_i (y := xs (i + 1)) (congrArg xs (x_sc (k := 1) (by decide) hi hL)) ?_
      refine xl_i (y := 1) eq1 ?_
      refine lv_aload_n hx hb dL_law_1315 rfl (lv_at hl 3 rfl) ?_
      refine lv_iload_n hx hb dL_law_1316 rfl (lv_at hl 0 rfl) ?_
      refine lv_iconst (v := 2) hx hb dL_law_1317 (by decide) ?_
      refine lv_iadd hx hb dL_law_1318 ?_
      refine xl_i (y := nI (i + 2)) (nI_add i 2) ?_
      refine va_sld hx hb hX hbl hbA hS (x_si (k := 2) (by decide) hi hL) dL_law_1319 ?_
      refine xl_i (y := xs (i + 2)) (congrArg xs (x_sc (k := 2) (by decide) hi hL)) ?_
      refine lv_aload_n hx hb dL_law_1320 rfl (lv_at hl 3 rfl) ?_
      refine lv_iload_n hx hb dL_law_1321 rfl (lv_at hl 0 rfl) ?_
      refine lv_iconst (v := 3) hx hb dL_law_1322 (by decide) ?_
      refine lv_iadd hx hb dL_law_1323 ?_
      refine xl_i (y := nI (i + 3)) (nI_add i 3) ?_
      refine va_sld hx hb hX hbl hbA hS (x_si (k := 3) (by decide) hi hL) dL_law_1324 ?_
      refine xl_i (y := xs (i + 3)) (congrArg xs (x_sc (k := 3) (by decide) hi hL)) ?_
      refine xl_i (y := 2) eq3 ?_
      refine lv_aload_n hx hb dL_law_1325 rfl (lv_at hl 3 rfl) ?_
      refine lv_iload_n hx hb dL_law_1326 rfl (lv_at hl 0 rfl) ?_
      refine lv_iconst (v := 4) hx hb dL_law_1327 (by decide) ?_
      refine lv_iadd hx hb dL_law_1328 ?_
      refine xl_i (y := nI (i + 4)) (nI_add i 4) ?_
      refine va_sld hx hb hX hbl hbA hS (x_si (k := 4) (by decide) hi hL) dL_law_1329 ?_
      refine xl_i (y := xs (i + 4)) (congrArg xs (x_sc (k := 4) (by decide) hi hL)) ?_
      refine lv_aload_n hx hb dL_law_1330 rfl (lv_at hl 3 rfl) ?_
      refine lv_iload_n hx hb dL_law_1331 rfl (lv_at hl 0 rfl) ?_
      refine lv_iconst (v := 5) hx hb dL_law_1332 (by decide) ?_
      refine lv_iadd hx hb dL_law_1333 ?_
      refine xl_i (y := nI (i + 5)) (nI_add i 5) ?_
      refine va_sld hx hb hX hbl hbA hS (x_si (k := 5) (by decide) hi hL) dL_law_1334 ?_
      refine xl_i (y := xs (i + 5)) (congrArg xs (x_sc (k := 5) (by decide) hi hL)) ?_
      refine xc_ViT (wr := [(h0, .inr (8, [.ref qh, .ref qk, .ref qd, .int b0, .ref qa, .ref qm, .ref qs, .ref qp, .ref ql, .ref qt, .ref qz, .ref qf])), (qz, .inl (cS, 4, .inr (.inr (.inr (.inr (xSh s0 s1 s2 s3)))))), (s0, .inr (4, [.int bt0, .int (nI (sz0)), .ref sn0])), (s1, .inr (4, [.int bt1, .int (nI (sz1)), .ref sn1])), (s2, .inr (4, [.int bt2, .int (nI (sz2)), .ref sn2])), (s3, .inr (4, [.int bt3, .int (nI (sz3)), .ref sn3])), (sn0, .inl (cJ, 40, .inr (.inl nu0))), (sn1, .inl (cJ, 40, .inr (.inl nu1))), (sn2, .inl (cJ, 40, .inr (.inl nv_90))), (sn3, .inl (cJ, 40, .inr (.inl nu3))), (qf, .inl (cI, 7, .inl f2_91))]) hF (c_X9_copy_12 l D cI cJ cZ cS ta sa sv H.size g0 m_ys m_yk m_yo m_yt b0 m_yfa m_yfe m_mL m_mS m_mM m_yro m_yhe m_ygr m_mF m_mC m_mY m_yta z m_mf m_mt m_mv m_mw m_ywa m_ybi m_ysi m_ynu m_ymo m_bi m_sq m_nb m_mv9 m_mq (xs (i + 2)) (xs (i + 4)) (xs (i + 5)) sz1 sz2 r_z1 hsz1 r_z2 hsz2 m_hsq) kv_L_170 ⟨rfl, rfl, Nat.le_of_ble_eq_true rfl, Nat.le_of_ble_eq_true rfl⟩ ⟨Nat.le_of_ble_eq_true rfl, Nat.le_of_ble_eq_true rfl⟩ hK hN hZ hP hD hS hA [0, 2, 3, 4, 5, 1] [6, 7, 8, 9, 10, 11, 12, 13, 14, 15, 16] rfl rfl rfl rfl (by decide) 0 rfl rfl rfl rfl hl.1 rfl (Nat.le_of_ble_eq_true rfl) dL_law_1335 (fun r_93 u_r_93 H locs hw_r_93 hP hD hS => ?_)
      obtain ⟨nb2_94, mv2_95, mq2_96⟩ := u_r_93
      try dsimp only at hw_r_93
      obtain ⟨hw_r_93, i_97, i_98⟩ := hw_r_93
      have hP : va_P D vwCl ([(h0, .inr (8, [.ref qh, .ref qk, .ref qd, .int b0, .ref qa, .ref qm, .ref qs, .ref qp, .ref ql, .ref qt, .ref qz, .ref qf])), (qz, .inl (cS, 4, .inr (.inr (.inr (.inr (xSh s0 s1 s2 s3)))))), (s0, .inr (4, [.int bt0, .int (nI (sz0)), .ref sn0])), (s1, .inr (4, [.int bt1, .int (nI (sz1)), .ref sn1])), (s2, .inr (4, [.int bt2, .int (nI (sz2)), .ref sn2])), (s3, .inr (4, [.int bt3, .int (nI (sz3)), .ref sn3])), (sn0, .inl (cJ, 40, .inr (.inl nu0))), (sn1, .inl (cJ, 40, .inr (.inl nu1))), (sn2, .inl (cJ, 40, .inr (.inl nv_90))), (sn3, .inl (cJ, 40, .inr (.inl nu3))), (qf, .inl (cI, 7, .inl f2_91)), (g0, .inr (9, [.ref m_ys, .ref m_yk, .ref m_yo, .ref m_yt, .int b0, .ref m_yfa, .ref m_yfe, .int m_mL, .int m_mS, .int m_mM, .ref m_yro, .ref m_yhe, .ref m_ygr, .int m_mF, .int m_mC, .int m_mY, .ref m_yta, .int (nI (z)), .int (nI (m_mf)), .int (nI (m_mt)), .int m_mv, .int m_mw, .ref m_ywa, .ref m_ybi, .ref m_ysi, .ref m_ynu, .ref m_ymo])), (m_ybi, .inl (cI, 4, .inl m_bi)), (m_ysi, .inl (cI, 4, .inl m_sq)), (m_ynu, .inl (cJ, 160, .inr (.inl nb2_94))), (m_ymo, .inl (cJ, 40, .inr (.inl mv2_95))), (m_yt, .inl (cI, 7, .inl mq2_96))] ++ tl) H := hP
      have hD : va_D A ([(h0, .inr (8, [.ref qh, .ref qk, .ref qd, .int b0, .ref qa, .ref qm, .ref qs, .ref qp, .ref ql, .ref qt, .ref qz, .ref qf])), (qz, .inl (cS, 4, .inr (.inr (.inr (.inr (xSh s0 s1 s2 s3)))))), (s0, .inr (4, [.int bt0, .int (nI (sz0)), .ref sn0])), (s1, .inr (4, [.int bt1, .int (nI (sz1)), .ref sn1])), (s2, .inr (4, [.int bt2, .int (nI (sz2)), .ref sn2])), (s3, .inr (4, [.int bt3, .int (nI (sz3)), .ref sn3])), (sn0, .inl (cJ, 40, .inr (.inl nu0))), (sn1, .inl (cJ, 40, .inr (.inl nu1))), (sn2, .inl (cJ, 40, .inr (.inl nv_90))), (sn3, .inl (cJ, 40, .inr (.inl nu3))), (qf, .inl (cI, 7, .inl f2_91)), (g0, .inr (9, [.ref m_ys, .ref m_yk, .ref m_yo, .ref m_yt, .int b0, .ref m_yfa, .ref m_yfe, .int m_mL, .int m_mS, .int m_mM, .ref m_yro, .ref m_yhe, .ref m_ygr, .int m_mF, .int m_mC, .int m_mY, .ref m_yta, .int (nI (z)), .int (nI (m_mf)), .int (nI (m_mt)), .int m_mv, .int m_mw, .ref m_ywa, .ref m_ybi, .ref m_ysi, .ref m_ynu, .ref m_ymo])), (m_ybi, .inl (cI, 4, .inl m_bi)), (m_ysi, .inl (cI, 4, .inl m_sq)), (m_ynu, .inl (cJ, 160, .inr (.inl nb2_94))), (m_ymo, .inl (cJ, 40, .inr (.inl mv2_95))), (m_yt, .inl (cI, 7, .inl mq2_96))] ++ tl) := hD
      subst hw_r_93
      refine lv_pop hx hb dL_law_1338 rfl ?_
      refine lv_goto (tgt := 1483) hx hb dL_law_1339 (by decide) ?_
      exact kkx _ _ _ nu0 nu1 nv_90 nu3 f2_91 mq2_96 nb2_94 mv2_95 (xt_P hP [0, 1, 2, 3, 4, 5, 6, 7, 8, 9, 10, 11, 16, 12, 13, 14, 15] rfl) (xt_D hD [0, 1, 2, 3, 4, 5, 6, 7, 8, 9, 10, 11, 16, 12, 13, 14, 15] (by decide +kernel) rfl) (fun j hj => (i_98 (0 + j) (by omega)).trans (r_n0 j hj)) (fun j hj => (i_98 (40 + j) (by omega)).trans (r_n1 j hj)) (fun j hj => (i_97 j).trans ((sp_cneq r_b1 r_b2 r_n1 (by omega) (r_n2 j hj)).trans (i_92 j).symm)) (fun j hj => (i_98 (120 + j) (by omega)).trans (r_n3 j hj)) hS hl
    · skip
      refine lv_aload_n hx hb dL_law_1280 rfl (lv_at hl 3 rfl) ?_
      refine lv_iload_n hx hb dL_law_1281 rfl (lv_at hl 0 rfl) ?_
      refine lv_iconst (v := 1) hx hb dL_law_1282 (by decide) ?_
      refine lv_iadd hx hb dL_law_1283 ?_
      refine xl_i (y := nI (i + 1)) (nI_add i 1) ?_
      refine va_sld hx hb hX hbl hbA hS (x_si (k := 1) (by decide) hi hL) dL_law_1284 ?_
      refine xl_i (y := xs (i + 1)) (congrArg xs (x_sc (k := 1) (by decide) hi hL)) ?_
      refine xl_i (y := 1) eq1 ?_
      refine lv_aload_n hx hb dL_law_1285 rfl (lv_at hl 3 rfl) ?_
      refine lv_iload_n hx hb dL_law_1286 rfl (lv_at hl 0 rfl) ?_
      refine lv_iconst (v := 2) hx hb dL_law_1287 (by decide) ?_
      refine lv_iadd hx hb dL_law_1288 ?_
      refine xl_i (y := nI (i + 2)) (nI_add i 2) ?_
      refine va_sld hx hb hX hbl hbA hS (x_si (k := 2) (by decide) hi hL) dL_law_1289 ?_
      refine xl_i (y := xs (i + 2)) (congrArg xs (x_sc (k := 2) (by decide) hi hL)) ?_
      refine lv_aload_n hx hb dL_law_1290 rfl (lv_at hl 3 rfl) ?_
      refine lv_iload_n hx hb dL_law_1291 rfl (lv_at hl 0 rfl) ?_
      refine lv_iconst (v := 3) hx hb dL_law_1292 (by decide) ?_
      refine lv_iadd hx hb dL_law_1293 ?_
      refine xl_i (y := nI (i + 3)) (nI_add i 3) ?_
      refine va_sld hx hb hX hbl hbA hS (x_si (k := 3) (by decide) hi hL) dL_law_1294 ?_
      refine xl_i (y := xs (i + 3)) (congrArg xs (x_sc (k := 3) (by decide) hi hL)) ?_
      refine xl_i (y := 3) eq3 ?_
      refine lv_aload_n hx hb dL_law_1295 rfl (lv_at hl 3 rfl) ?_
      refine lv_iload_n hx hb dL_law_1296 rfl (lv_at hl 0 rfl) ?_
      refine lv_iconst (v := 4) hx hb dL_law_1297 (by decide) ?_
      refine lv_iadd hx hb dL_law_1298 ?_
      refine xl_i (y := nI (i + 4)) (nI_add i 4) ?_
      refine va_sld hx hb hX hbl hbA hS (x_si (k := 4) (by decide) hi hL) dL_law_1299 ?_
      refine xl_i (y := xs (i + 4)) (congrArg xs (x_sc (k := 4) (by decide) hi hL)) ?_
      refine lv_aload_n hx hb dL_law_1300 rfl (lv_at hl 3 rfl) ?_
      refine lv_iload_n hx hb dL_law_1301 rfl (lv_at hl 0 rfl) ?_
      refine lv_iconst (v := 5) hx hb dL_law_1302 (by decide) ?_
      refine lv_iadd hx hb dL_law_1303 ?_
      refine xl_i (y := nI (i + 5)) (nI_add i 5) ?_
      refine va_sld hx hb hX hbl hbA hS (x_si (k := 5) (by decide) hi hL) dL_law_1304 ?_
      refine xl_i (y := xs (i + 5)) (congrArg xs (x_sc (k := 5) (by decide) hi hL)) ?_
      refine xc_ViT (wr := [(g0, .inr (9, [.ref m_ys, .ref m_yk, .ref m_yo, .ref m_yt, .int b0, .ref m_yfa, .ref m_yfe, .int m_mL, .int m_mS, .int m_mM, .ref m_yro, .ref m_yhe, .ref m_ygr, .int m_mF, .int m_mC, .int m_mY, .ref m_yta, .int (nI (z)), .int (nI (m_mf)), .int (nI (m_mt)), .int m_mv, .int m_mw, .ref m_ywa, .ref m_ybi, .ref m_ysi, .ref m_ynu, .ref m_ymo])), (m_yt, .inl (cI, 7, .inl m_mq)), (m_ybi, .inl (cI, 4, .inl m_bi)), (m_ysi, .inl (cI, 4, .inl m_sq)), (m_ynu, .inl (cJ, 160, .inr (.inl m_nb))), (m_ymo, .inl (cJ, 40, .inr (.inl m_mv9)))]) hF (c_X8_copy_13 l D cI cJ cZ cS ta sa sv H.size h0 qh qk qd b0 qa qm qs qp ql qt qz qf s0 s1 s2 s3 bt0 sz0 sn0 bt1 sz1 sn1 bt2 sz2 sn2 bt3 sz3 sn3 nu0 nu1 nu2 nu3 ff (xs (i + 2)) (xs (i + 4)) (xs (i + 5)) hsz0 hsz1 hsz2 hsz3) kv_L_166 ⟨rfl, rfl, Nat.le_of_ble_eq_true rfl, Nat.le_of_ble_eq_true rfl⟩ ⟨Nat.le_of_ble_eq_true rfl, Nat.le_of_ble_eq_true rfl⟩ hK hN hZ hP hD hS hA [0, 1, 2, 3, 4, 5, 6, 7, 8, 9, 10] [11, 12, 13, 14, 15, 16] rfl rfl rfl rfl (by decide) 0 rfl rfl rfl rfl hl.1 rfl (Nat.le_of_ble_eq_true rfl) dL_law_1305 (fun r_99 u_r_99 H locs hw_r_99 hP hD hS => ?_)
      obtain ⟨nv_100, f2_101⟩ := u_r_99
      try dsimp only at hw_r_99
      obtain ⟨hw_r_99, i_102⟩ := hw_r_99
      have hP : va_P D vwCl ([(g0, .inr (9, [.ref m_ys, .ref m_yk, .ref m_yo, .ref m_yt, .int b0, .ref m_yfa, .ref m_yfe, .int m_mL, .int m_mS, .int m_mM, .ref m_yro, .ref m_yhe, .ref m_ygr, .int m_mF, .int m_mC, .int m_mY, .ref m_yta, .int (nI (z)), .int (nI (m_mf)), .int (nI (m_mt)), .int m_mv, .int m_mw, .ref m_ywa, .ref m_ybi, .ref m_ysi, .ref m_ynu, .ref m_ymo])), (m_yt, .inl (cI, 7, .inl m_mq)), (m_ybi, .inl (cI, 4, .inl m_bi)), (m_ysi, .inl (cI, 4, .inl m_sq)), (m_ynu, .inl (cJ, 160, .inr (.inl m_nb))), (m_ymo, .inl (cJ, 40, .inr (.inl m_mv9))), (h0, .inr (8, [.ref qh, .ref qk, .ref qd, .int b0, .ref qa, .ref qm, .ref qs, .ref qp, .ref ql, .ref qt, .ref qz, .ref qf])), (qz, .inl (cS, 4, .inr (.inr (.inr (.inr (xSh s0 s1 s2 s3)))))), (s0, .inr (4, [.int bt0, .int (nI (sz0)), .ref sn0])), (s1, .inr (4, [.int bt1, .int (nI (sz1)), .ref sn1])), (s2, .inr (4, [.int bt2, .int (nI (sz2)), .ref sn2])), (s3, .inr (4, [.int bt3, .int (nI (sz3)), .ref sn3])), (sn0, .inl (cJ, 40, .inr (.inl nu0))), (sn1, .inl (cJ, 40, .inr (.inl nu1))), (sn2, .inl (cJ, 40, .inr (.inl nu2))), (sn3, .inl (cJ, 40, .inr (.inl nv_100))), (qf, .inl (cI, 7, .inl f2_101))] ++ tl) H := hP
      have hD : va_D A ([(g0, .inr (9, [.ref m_ys, .ref m_yk, .ref m_yo, .ref m_yt, .int b0, .ref m_yfa, .ref m_yfe, .int m_mL, .int m_mS, .int m_mM, .ref m_yro, .ref m_yhe, .ref m_ygr, .int m_mF, .int m_mC, .int m_mY, .ref m_yta, .int (nI (z)), .int (nI (m_mf)), .int (nI (m_mt)), .int m_mv, .int m_mw, .ref m_ywa, .ref m_ybi, .ref m_ysi, .ref m_ynu, .ref m_ymo])), (m_yt, .inl (cI, 7, .inl m_mq)), (m_ybi, .inl (cI, 4, .inl m_bi)), (m_ysi, .inl (cI, 4, .inl m_sq)), (m_ynu, .inl (cJ, 160, .inr (.inl m_nb))), (m_ymo, .inl (cJ, 40, .inr (.inl m_mv9))), (h0, .inr (8, [.ref qh, .ref qk, .ref qd, .int b0, .ref qa, .ref qm, .ref qs, .ref qp, .ref ql, .ref qt, .ref qz, .ref qf])), (qz, .inl (cS, 4, .inr (.inr (.inr (.inr (xSh s0 s1 s2 s3)))))), (s0, .inr (4, [.int bt0, .int (nI (sz0)), .ref sn0])), (s1, .inr (4, [.int bt1, .int (nI (sz1)), .ref sn1])), (s2, .inr (4, [.int bt2, .int (nI (sz2)), .ref sn2])), (s3, .inr (4, [.int bt3, .int (nI (sz3)), .ref sn3])), (sn0, .inl (cJ, 40, .inr (.inl nu0))), (sn1, .inl (cJ, 40, .inr (.inl nu1))), (sn2, .inl (cJ, 40, .inr (.inl nu2))), (sn3, .inl (cJ, 40, .inr (.inl nv_100))), (qf, .inl (cI, 7, .inl f2_101))] ++ tl) := hD
      subst hw_r_99
      refine lv_pop hx hb dL_law_1308 rfl ?_
      refine lv_aload_n hx hb dL_law_1309 rfl (lv_at hl 1 rfl) ?_
      refine lv_aload_n hx hb dL_law_1310 rfl (lv_at hl 3 rfl) ?_
      refine lv_iload_n hx hb dL_law_1311 rfl (lv_at hl 0 rfl) ?_
      refine lv_iconst (v := 1) hx hb dL_law_1312 (by decide) ?_
      refine lv_iadd hx hb dL_law_1313 ?_
      refine xl_i (y := nI (i + 1)) (nI_add i 1) ?_
      refine va_sld hx hb hX hbl hbA hS (x_si (k := 1) (by decide) hi hL) dL_law_1314 ?_
      refine xl_i (y := xs (i + 1)) (congrArg xs (x_sc (k := 1) (by decide) hi hL)) ?_
      refine xl_i (y := 1) eq1 ?_
      refine lv_aload_n hx hb dL_law_1315 rfl (lv_at hl 3 rfl) ?_
      refine lv_iload_n hx hb dL_law_1316 rfl (lv_at hl 0 rfl) ?_
      refine lv_iconst (v := 2) hx hb dL_law_1317 (by decide) ?_
      refine lv_iadd hx hb dL_law_1318 ?_
      refine xl_i (y := nI (i + 2)) (nI_add i 2) ?_
      refine va_sld hx hb hX hbl hbA hS (x_si (k := 2) (by decide) hi hL) dL_law_1319 ?_
      refine xl_i (y := xs (i + 2)) (congrArg xs (x_sc (k := 2) (by decide) hi hL)) ?_
      refine lv_aload_n hx hb dL_law_1320 rfl (lv_at hl 3 rfl) ?_
      refine lv_iload_n hx hb dL_law_1321 rfl (lv_at hl 0 rfl) ?_
      refine lv_iconst (v := 3) hx hb dL_law_1322 (by decide) ?_
      refine lv_iadd hx hb dL_law_1323 ?_
      refine xl_i (y := nI (i + 3)) (nI_add i 3) ?_
      refine va_sld hx hb hX hbl hbA hS (x_si (k := 3) (by decide) hi hL) dL_law_1324 ?_
      refine xl_i (y := xs (i + 3)) (congrArg xs (x_sc (k := 3) (by decide) hi hL)) ?_
      refine xl_i (y := 3) eq3 ?_
      refine lv_aload_n hx hb dL_law_1325 rfl (lv_at hl 3 rfl) ?_
      refine lv_iload_n hx hb dL_law_1326 rfl (lv_at hl 0 rfl) ?_
      refine lv_iconst (v := 4) hx hb dL_law_1327 (by decide) ?_
      refine lv_iadd hx hb dL_law_1328 ?_
      refine xl_i (y := nI (i + 4)) (nI_add i 4) ?_
      refine va_sld hx hb hX hbl hbA hS (x_si (k := 4) (by decide) hi hL) dL_law_1329 ?_
      refine xl_i (y := xs (i + 4)) (congrArg xs (x_sc (k := 4) (by decide) hi hL)) ?_
      refine lv_aload_n hx hb dL_law_1330 rfl (lv_at hl 3 rfl) ?_
      refine lv_iload_n hx hb dL_law_1331 rfl (lv_at hl 0 rfl) ?_
      refine lv_iconst (v := 5) hx hb dL_law_1332 (by decide) ?_
      refine lv_iadd hx hb dL_law_1333 ?_
      refine xl_i (y := nI (i + 5)) (nI_add i 5) ?_
      refine va_sld hx hb hX hbl hbA hS (x_si (k := 5) (by decide) hi hL) dL_law_1334 ?_
      refine xl_i (y := xs (i + 5)) (congrArg xs (x_sc (k := 5) (by decide) hi hL)) ?_
      refine xc_ViT (wr := [(h0, .inr (8, [.ref qh, .ref qk, .ref qd, .int b0, .ref qa, .ref qm, .ref qs, .ref qp, .ref ql, .ref qt, .ref qz, .ref qf])), (qz, .inl (cS, 4, .inr (.inr (.inr (.inr (xSh s0 s1 s2 s3)))))), (s0, .inr (4, [.int bt0, .int (nI (sz0)), .ref sn0])), (s1, .inr (4, [.int bt1, .int (nI (sz1)), .ref sn1])), (s2, .inr (4, [.int bt2, .int (nI (sz2)), .ref sn2])), (s3, .inr (4, [.int bt3, .int (nI (sz3)), .ref sn3])), (sn0, .inl (cJ, 40, .inr (.inl nu0))), (sn1, .inl (cJ, 40, .inr (.inl nu1))), (sn2, .inl (cJ, 40, .inr (.inl nu2))), (sn3, .inl (cJ, 40, .inr (.inl nv_100))), (qf, .inl (cI, 7, .inl f2_101))]) hF (c_X9_copy_13 l D cI cJ cZ cS ta sa sv H.size g0 m_ys m_yk m_yo m_yt b0 m_yfa m_yfe m_mL m_mS m_mM m_yro m_yhe m_ygr m_mF m_mC m_mY m_yta z m_mf m_mt m_mv m_mw m_ywa m_ybi m_ysi m_ynu m_ymo m_bi m_sq m_nb m_mv9 m_mq (xs (i + 2)) (xs (i + 4)) (xs (i + 5)) sz1 sz3 r_z1 hsz1 r_z3 hsz3 m_hsq) kv_L_170 ⟨rfl, rfl, Nat.le_of_ble_eq_true rfl, Nat.le_of_ble_eq_true rfl⟩ ⟨Nat.le_of_ble_eq_true rfl, Nat.le_of_ble_eq_true rfl⟩ hK hN hZ hP hD hS hA [0, 2, 3, 4, 5, 1] [6, 7, 8, 9, 10, 11, 12, 13, 14, 15, 16] rfl rfl rfl rfl (by decide) 0 rfl rfl rfl rfl hl.1 rfl (Nat.le_of_ble_eq_true rfl) dL_law_1335 (fun r_103 u_r_103 H locs hw_r_103 hP hD hS => ?_)
      obtain ⟨nb2_104, mv2_105, mq2_106⟩ := u_r_103
      try dsimp only at hw_r_103
      obtain ⟨hw_r_103, i_107, i_108⟩ := hw_r_103
      have hP : va_P D vwCl ([(h0, .inr (8, [.ref qh, .ref qk, .ref qd, .int b0, .ref qa, .ref qm, .ref qs, .ref qp, .ref ql, .ref qt, .ref qz, .ref qf])), (qz, .inl (cS, 4, .inr (.inr (.inr (.inr (xSh s0 s1 s2 s3)))))), (s0, .inr (4, [.int bt0, .int (nI (sz0)), .ref sn0])), (s1, .inr (4, [.int bt1, .int (nI (sz1)), .ref sn1])), (s2, .inr (4, [.int bt2, .int (nI (sz2)), .ref sn2])), (s3, .inr (4, [.int bt3, .int (nI (sz3)), .ref sn3])), (sn0, .inl (cJ, 40, .inr (.inl nu0))), (sn1, .inl (cJ, 40, .inr (.inl nu1))), (sn2, .inl (cJ, 40, .inr (.inl nu2))), (sn3, .inl (cJ, 40, .inr (.inl nv_100))), (qf, .inl (cI, 7, .inl f2_101)), (g0, .inr (9, [.ref m_ys, .ref m_yk, .ref m_yo, .ref m_yt, .int b0, .ref m_yfa, .ref m_yfe, .int m_mL, .int m_mS, .int m_mM, .ref m_yro, .ref m_yhe, .ref m_ygr, .int m_mF, .int m_mC, .int m_mY, .ref m_yta, .int (nI (z)), .int (nI (m_mf)), .int (nI (m_mt)), .int m_mv, .int m_mw, .ref m_ywa, .ref m_ybi, .ref m_ysi, .ref m_ynu, .ref m_ymo])), (m_ybi, .inl (cI, 4, .inl m_bi)), (m_ysi, .inl (cI, 4, .inl m_sq)), (m_ynu, .inl (cJ, 160, .inr (.inl nb2_104))), (m_ymo, .inl (cJ, 40, .inr (.inl mv2_105))), (m_yt, .inl (cI, 7, .inl mq2_106))] ++ tl) H := hP
      have hD : va_D A ([(h0, .inr (8, [.ref qh, .ref qk, .ref qd, .int b0, .ref qa, .ref qm, .ref qs, .ref qp, .ref ql, .ref qt, .ref qz, .ref qf])), (qz, .inl (cS, 4, .inr (.inr (.inr (.inr (xSh s0 s1 s2 s3)))))), (s0, .inr (4, [.int bt0, .int (nI (sz0)), .ref sn0])), (s1, .inr (4, [.int bt1, .int (nI (sz1)), .ref sn1])), (s2, .inr (4, [.int bt2, .int (nI (sz2)), .ref sn2])), (s3, .inr (4, [.int bt3, .int (nI (sz3)), .ref sn3])), (sn0, .inl (cJ, 40, .inr (.inl nu0))), (sn1, .inl (cJ, 40, .inr (.inl nu1))), (sn2, .inl (cJ, 40, .inr (.inl nu2))), (sn3, .inl (cJ, 40, .inr (.inl nv_100))), (qf, .inl (cI, 7, .inl f2_101)), (g0, .inr (9, [.ref m_ys, .ref m_yk, .ref m_yo, .ref m_yt, .int b0, .ref m_yfa, .ref m_yfe, .int m_mL, .int m_mS, .int m_mM, .ref m_yro, .ref m_yhe, .ref m_ygr, .int m_mF, .int m_mC, .int m_mY, .ref m_yta, .int (nI (z)), .int (nI (m_mf)), .int (nI (m_mt)), .int m_mv, .int m_mw, .ref m_ywa, .ref m_ybi, .ref m_ysi, .ref m_ynu, .ref m_ymo])), (m_ybi, .inl (cI, 4, .inl m_bi)), (m_ysi, .inl (cI, 4, .inl m_sq)), (m_ynu, .inl (cJ, 160, .inr (.inl nb2_104))), (m_ymo, .inl (cJ, 40, .inr (.inl mv2_105))), (m_yt, .inl (cI, 7, .inl mq2_106))] ++ tl) := hD
      subst hw_r_103
      refine lv_pop hx hb dL_law_1338 rfl ?_
      refine lv_goto (tgt := 1483) hx hb dL_law_1339 (by decide) ?_
      exact kkx _ _ _ nu0 nu1 nu2 nv_100 f2_101 mq2_106 nb2_104 mv2_105 (xt_P hP [0, 1, 2, 3, 4, 5, 6, 7, 8, 9, 10, 11, 16, 12, 13, 14, 15] rfl) (xt_D hD [0, 1, 2, 3, 4, 5, 6, 7, 8, 9, 10, 11, 16, 12, 13, 14, 15] (by decide +kernel) rfl) (fun j hj => (i_108 (0 + j) (by omega)).trans (r_n0 j hj)) (fun j hj => (i_108 (40 + j) (by omega)).trans (r_n1 j hj)) (fun j hj => (i_108 (80 + j) (by omega)).trans (r_n2 j hj)) (fun j hj => (i_107 j).trans ((sp_cneq r_b1 r_b3 r_n1 (by omega) (r_n3 j hj)).trans (i_102 j).symm)) hS hl
  · skip
    refine lv_aload_n hx hb dL_law_1279 rfl (lv_at hl 2 rfl) ?_
    rcases x_sh4 (xs (i + 3)) with oq3 | eq3 | eq3 | eq3 | eq3
    · skip
      refine lv_aload_n hx hb dL_law_1280 rfl (lv_at hl 3 rfl) ?_
      refine lv_iload_n hx hb dL_law_1281 rfl (lv_at hl 0 rfl) ?_
      refine lv_iconst (v := 1) hx hb dL_law_1282 (by decide) ?_
      refine lv_iadd hx hb dL_law_1283 ?_
      refine xl_i (y := nI (i + 1)) (nI_add i 1) ?_
      refine va_sld hx hb hX hbl hbA hS (x_si (k := 1) (by decide) hi hL) dL_law_1284 ?_
      refine xl_i (y := xs (i + 1)) (congrArg xs (x_sc (k := 1) (by decide) hi hL)) ?_
      refine xl_i (y := 2) eq1 ?_
      refine lv_aload_n hx hb dL_law_1285 rfl (lv_at hl 3 rfl) ?_
      refine lv_iload_n hx hb dL_law_1286 rfl (lv_at hl 0 rfl) ?_
      refine lv_iconst (v := 2) hx hb dL_law_1287 (by decide) ?_
      refine lv_iadd hx hb dL_law_1288 ?_
      refine xl_i (y := nI (i + 2)) (nI_add i 2) ?_
      refine va_sld hx hb hX hbl hbA hS (x_si (k := 2) (by decide) hi hL) dL_law_1289 ?_
      refine xl_i (y := xs (i + 2)) (congrArg xs (x_sc (k := 2) (by decide) hi hL)) ?_
      refine lv_aload_n hx hb dL_law_1290 rfl (lv_at hl 3 rfl) ?_
      refine lv_iload_n hx hb dL_law_1291 rfl (lv_at hl 0 rfl) ?_
      refine lv_iconst (v := 3) hx hb dL_law_1292 (by decide) ?_
      refine lv_iadd hx hb dL_law_1293 ?_
      refine xl_i (y := nI (i + 3)) (nI_add i 3) ?_
      refine va_sld hx hb hX hbl hbA hS (x_si (k := 3) (by decide) hi hL) dL_law_1294 ?_
      refine xl_i (y := xs (i + 3)) (congrArg xs (x_sc (k := 3) (by decide) hi hL)) ?_
      refine lv_aload_n hx hb dL_law_1295 rfl (lv_at hl 3 rfl) ?_
      refine lv_iload_n hx hb dL_law_1296 rfl (lv_at hl 0 rfl) ?_
      refine lv_iconst (v := 4) hx hb dL_law_1297 (by decide) ?_
      refine lv_iadd hx hb dL_law_1298 ?_
      refine xl_i (y := nI (i + 4)) (nI_add i 4) ?_
      refine va_sld hx hb hX hbl hbA hS (x_si (k := 4) (by decide) hi hL) dL_law_1299 ?_
      refine xl_i (y := xs (i + 4)) (congrArg xs (x_sc (k := 4) (by decide) hi hL)) ?_
      refine lv_aload_n hx hb dL_law_1300 rfl (lv_at hl 3 rfl) ?_
      refine lv_iload_n hx hb dL_law_1301 rfl (lv_at hl 0 rfl) ?_
      refine lv_iconst (v := 5) hx hb dL_law_1302 (by decide) ?_
      refine lv_iadd hx hb dL_law_1303 ?_
      refine xl_i (y := nI (i + 5)) (nI_add i 5) ?_
      refine va_sld hx hb hX hbl hbA hS (x_si (k := 5) (by decide) hi hL) dL_law_1304 ?_
      refine xl_i (y := xs (i + 5)) (congrArg xs (x_sc (k := 5) (by decide) hi hL)) ?_
      refine xc_ViT (wr := [(qz, .inl (cS, 4, .inr (.inr (.inr (.inr (xSh s0 s1 s2 s3)))))), (s0, .inr (4, [.int bt0, .int (nI (sz0)), .ref sn0])), (s1, .inr (4, [.int bt1, .int (nI (sz1)), .ref sn1])), (s2, .inr (4, [.int bt2, .int (nI (sz2)), .ref sn2])), (s3, .inr (4, [.int bt3, .int (nI (sz3)), .ref sn3])), (sn0, .inl (cJ, 40, .inr (.inl nu0))), (sn1, .inl (cJ, 40, .inr (.inl nu1))), (sn2, .inl (cJ, 40, .inr (.inl nu2))), (sn3, .inl (cJ, 40, .inr (.inl nu3))), (g0, .inr (9, [.ref m_ys, .ref m_yk, .ref m_yo, .ref m_yt, .int b0, .ref m_yfa, .ref m_yfe, .int m_mL, .int m_mS, .int m_mM, .ref m_yro, .ref m_yhe, .ref m_ygr, .int m_mF, .int m_mC, .int m_mY, .ref m_yta, .int (nI (z)), .int (nI (m_mf)), .int (nI (m_mt)), .int m_mv, .int m_mw, .ref m_ywa, .ref m_ybi, .ref m_ysi, .ref m_ynu, .ref m_ymo])), (m_yt, .inl (cI, 7, .inl m_mq)), (m_ybi, .inl (cI, 4, .inl m_bi)), (m_ysi, .inl (cI, 4, .inl m_sq)), (m_ynu, .inl (cJ, 160, .inr (.inl m_nb))), (m_ymo, .inl (cJ, 40, .inr (.inl m_mv9)))]) hF (c_X8_copy_2o l D cI cJ cZ cS ta sa sv H.size h0 qh qk qd b0 qa qm qs qp ql qt qz qf ff (xs (i + 2)) (xs (i + 3)) (xs (i + 4)) (xs (i + 5)) oq3) kv_L_166 ⟨rfl, rfl, Nat.le_of_ble_eq_true rfl, Nat.le_of_ble_eq_true rfl⟩ ⟨Nat.le_of_ble_eq_true rfl, Nat.le_of_ble_eq_true rfl⟩ hK hN hZ hP hD hS hA [0, 10] [1, 2, 3, 4, 5, 6, 7, 8, 9, 11, 12, 13, 14, 15, 16] rfl rfl rfl rfl (by decide) 0 rfl rfl rfl rfl hl.1 rfl (Nat.le_of_ble_eq_true rfl) dL_law_1305 (fun r_109 u_r_109 H locs hw_r_109 hP hD hS => ?_)
      obtain ⟨f2_110, rfl⟩ : ∃ z, z = u_r_109 := ⟨_, rfl⟩
      try dsimp only at hw_r_109
      have hP : va_P D vwCl ([(qz, .inl (cS, 4, .inr (.inr (.inr (.inr (xSh s0 s1 s2 s3)))))), (s0, .inr (4, [.int bt0, .int (nI (sz0)), .ref sn0])), (s1, .inr (4, [.int bt1, .int (nI (sz1)), .ref sn1])), (s2, .inr (4, [.int bt2, .int (nI (sz2)), .ref sn2])), (s3, .inr (4, [.int bt3, .int (nI (sz3)), .ref sn3])), (sn0, .inl (cJ, 40, .inr (.inl nu0))), (sn1, .inl (cJ, 40, .inr (.inl nu1))), (sn2, .inl (cJ, 40, .inr (.inl nu2))), (sn3, .inl (cJ, 40, .inr (.inl nu3))), (g0, .inr (9, [.ref m_ys, .ref m_yk, .ref m_yo, .ref m_yt, .int b0, .ref m_yfa, .ref m_yfe, .int m_mL, .int m_mS, .int m_mM, .ref m_yro, .ref m_yhe, .ref m_ygr, .int m_mF, .int m_mC, .int m_mY, .ref m_yta, .int (nI (z)), .int (nI (m_mf)), .int (nI (m_mt)), .int m_mv, .int m_mw, .ref m_ywa, .ref m_ybi, .ref m_ysi, .ref m_ynu, .ref m_ymo])), (m_yt, .inl (cI, 7, .inl m_mq)), (m_ybi, .inl (cI, 4, .inl m_bi)), (m_ysi, .inl (cI, 4, .inl m_sq)), (m_ynu, .inl (cJ, 160, .inr (.inl m_nb))), (m_ymo, .inl (cJ, 40, .inr (.inl m_mv9))), (h0, .inr (8, [.ref qh, .ref qk, .ref qd, .int b0, .ref qa, .ref qm, .ref qs, .ref qp, .ref ql, .ref qt, .ref qz, .ref qf])), (qf, .inl (cI, 7, .inl f2_110))] ++ tl) H := hP
      have hD : va_D A ([(qz, .inl (cS, 4, .inr (.inr (.inr (.inr (xSh s0 s1 s2 s3)))))), (s0, .inr (4, [.int bt0, .int (nI (sz0)), .ref sn0])), (s1, .inr (4, [.int bt1, .int (nI (sz1)), .ref sn1])), (s2, .inr (4, [.int bt2, .int (nI (sz2)), .ref sn2])), (s3, .inr (4, [.int bt3, .int (nI (sz3)), .ref sn3])), (sn0, .inl (cJ, 40, .inr (.inl nu0))), (sn1, .inl (cJ, 40, .inr (.inl nu1))), (sn2, .inl (cJ, 40, .inr (.inl nu2))), (sn3, .inl (cJ, 40, .inr (.inl nu3))), (g0, .inr (9, [.ref m_ys, .ref m_yk, .ref m_yo, .ref m_yt, .int b0, .ref m_yfa, .ref m_yfe, .int m_mL, .int m_mS, .int m_mM, .ref m_yro, .ref m_yhe, .ref m_ygr, .int m_mF, .int m_mC, .int m_mY, .ref m_yta, .int (nI (z)), .int (nI (m_mf)), .int (nI (m_mt)), .int m_mv, .int m_mw, .ref m_ywa, .ref m_ybi, .ref m_ysi, .ref m_ynu, .ref m_ymo])), (m_yt, .inl (cI, 7, .inl m_mq)), (m_ybi, .inl (cI, 4, .inl m_bi)), (m_ysi, .inl (cI, 4, .inl m_sq)), (m_ynu, .inl (cJ, 160, .inr (.inl m_nb))), (m_ymo, .inl (cJ, 40, .inr (.inl m_mv9))), (h0, .inr (8, [.ref qh, .ref qk, .ref qd, .int b0, .ref qa, .ref qm, .ref qs, .ref qp, .ref ql, .ref qt, .ref qz, .ref qf])), (qf, .inl (cI, 7, .inl f2_110))] ++ tl) := hD
      subst hw_r_109
      refine lv_pop hx hb dL_law_1308 rfl ?_
      refine lv_aload_n hx hb dL_law_1309 rfl (lv_at hl 1 rfl) ?_
      refine lv_aload_n hx hb dL_law_1310 rfl (lv_at hl 3 rfl) ?_
      refine lv_iload_n hx hb dL_law_1311 rfl (lv_at hl 0 rfl) ?_
      refine lv_iconst (v := 1) hx hb dL_law_1312 (by decide) ?_
      refine lv_iadd hx hb dL_law_1313 ?_
      refine xl_i (y := nI (i + 1)) (nI_add i 1) ?_
      refine va_sld hx hb hX hbl hbA hS (x_si (k := 1) (by decide) hi hL) dL_law_1314 ?_
      refine xl_i (y := xs (i + 1)) (congrArg xs (x_sc (k := 1) (by decide) hi hL)) ?_
      refine xl_i (y := 2) eq1 ?_
      refine lv_aload_n hx hb dL_law_1315 rfl (lv_at hl 3 rfl) ?_
      refine lv_iload_n hx hb dL_law_1316 rfl (lv_at hl 0 rfl) ?_
      refine lv_iconst (v := 2) hx hb dL_law_1317 (by decide) ?_
      refine lv_iadd hx hb dL_law_1318 ?_
      refine xl_i (y := nI (i + 2)) (nI_add i 2) ?_
      refine va_sld hx hb hX hbl hbA hS (x_si (k := 2) (by decide) hi hL) dL_law_1319 ?_
      refine xl_i (y := xs (i + 2)) (congrArg xs (x_sc (k := 2) (by decide) hi hL)) ?_
      refine lv_aload_n hx hb dL_law_1320 rfl (lv_at hl 3 rfl) ?_
      refine lv_iload_n hx hb dL_law_1321 rfl (lv_at hl 0 rfl) ?_
      refine lv_iconst (v := 3) hx hb dL_law_1322 (by decide) ?_
      refine lv_iadd hx hb dL_law_1323 ?_
      refine xl_i (y := nI (i + 3)) (nI_add i 3) ?_
      refine va_sld hx hb hX hbl hbA hS (x_si (k := 3) (by decide) hi hL) dL_law_1324 ?_
      refine xl_i (y := xs (i + 3)) (congrArg xs (x_sc (k := 3) (by decide) hi hL)) ?_
      refine lv_aload_n hx hb dL_law_1325 rfl (lv_at hl 3 rfl) ?_
      refine lv_iload_n hx hb dL_law_1326 rfl (lv_at hl 0 rfl) ?_
      refine lv_iconst (v := 4) hx hb dL_law_1327 (by decide) ?_
      refine lv_iadd hx hb dL_law_1328 ?_
      refine xl_i (y := nI (i + 4)) (nI_add i 4) ?_
      refine va_sld hx hb hX hbl hbA hS (x_si (k := 4) (by decide) hi hL) dL_law_1329 ?_
      refine xl_i (y := xs (i + 4)) (congrArg xs (x_sc (k := 4) (by decide) hi hL)) ?_
      refine lv_aload_n hx hb dL_law_1330 rfl (lv_at hl 3 rfl) ?_
      refine lv_iload_n hx hb dL_law_1331 rfl (lv_at hl 0 rfl) ?_
      refine lv_iconst (v := 5) hx hb dL_law_1332 (by decide) ?_
      refine lv_iadd hx hb dL_law_1333 ?_
      refine xl_i (y := nI (i + 5)) (nI_add i 5) ?_
      refine va_sld hx hb hX hbl hbA hS (x_si (k := 5) (by decide) hi hL) dL_law_1334 ?_
      refine xl_i (y := xs (i + 5)) (congrArg xs (x_sc (k := 5) (by decide) hi hL)) ?_
      refine xc_ViT (wr := [(qz, .inl (cS, 4, .inr (.inr (.inr (.inr (xSh s0 s1 s2 s3)))))), (s0, .inr (4, [.int bt0, .int (nI (sz0)), .ref sn0])), (s1, .inr (4, [.int bt1, .int (nI (sz1)), .ref sn1])), (s2, .inr (4, [.int bt2, .int (nI (sz2)), .ref sn2])), (s3, .inr (4, [.int bt3, .int (nI (sz3)), .ref sn3])), (sn0, .inl (cJ, 40, .inr (.inl nu0))), (sn1, .inl (cJ, 40, .inr (.inl nu1))), (sn2, .inl (cJ, 40, .inr (.inl nu2))), (sn3, .inl (cJ, 40, .inr (.inl nu3))), (m_ybi, .inl (cI, 4, .inl m_bi)), (m_ysi, .inl (cI, 4, .inl m_sq)), (m_ynu, .inl (cJ, 160, .inr (.inl m_nb))), (m_ymo, .inl (cJ, 40, .inr (.inl m_mv9))), (h0, .inr (8, [.ref qh, .ref qk, .ref qd, .int b0, .ref qa, .ref qm, .ref qs, .ref qp, .ref ql, .ref qt, .ref qz, .ref qf])), (qf, .inl (cI, 7, .inl f2_110))]) hF (c_X9_copy_2o l D cI cJ cZ cS ta sa sv H.size g0 m_ys m_yk m_yo m_yt b0 m_yfa m_yfe m_mL m_mS m_mM m_yro m_yhe m_ygr m_mF m_mC m_mY m_yta z m_mf m_mt m_mv m_mw m_ywa m_ybi m_ysi m_ynu m_ymo m_mq (xs (i + 2)) (xs (i + 3)) (xs (i + 4)) (xs (i + 5)) oq3) kv_L_170 ⟨rfl, rfl, Nat.le_of_ble_eq_true rfl, Nat.le_of_ble_eq_true rfl⟩ ⟨Nat.le_of_ble_eq_true rfl, Nat.le_of_ble_eq_true rfl⟩ hK hN hZ hP hD hS hA [9, 10] [0, 1, 2, 3, 4, 5, 6, 7, 8, 11, 12, 13, 14, 15, 16] rfl rfl rfl rfl (by decide) 0 rfl rfl rfl rfl hl.1 rfl (Nat.le_of_ble_eq_true rfl) dL_law_1335 (fun r_111 u_r_111 H locs hw_r_111 hP hD hS => ?_)
      obtain ⟨mq2_112, rfl⟩ : ∃ z, z = u_r_111 := ⟨_, rfl⟩
      try dsimp only at hw_r_111
      have hP : va_P D vwCl ([(qz, .inl (cS, 4, .inr (.inr (.inr (.inr (xSh s0 s1 s2 s3)))))), (s0, .inr (4, [.int bt0, .int (nI (sz0)), .ref sn0])), (s1, .inr (4, [.int bt1, .int (nI (sz1)), .ref sn1])), (s2, .inr (4, [.int bt2, .int (nI (sz2)), .ref sn2])), (s3, .inr (4, [.int bt3, .int (nI (sz3)), .ref sn3])), (sn0, .inl (cJ, 40, .inr (.inl nu0))), (sn1, .inl (cJ, 40, .inr (.inl nu1))), (sn2, .inl (cJ, 40, .inr (.inl nu2))), (sn3, .inl (cJ, 40, .inr (.inl nu3))), (m_ybi, .inl (cI, 4, .inl m_bi)), (m_ysi, .inl (cI, 4, .inl m_sq)), (m_ynu, .inl (cJ, 160, .inr (.inl m_nb))), (m_ymo, .inl (cJ, 40, .inr (.inl m_mv9))), (h0, .inr (8, [.ref qh, .ref qk, .ref qd, .int b0, .ref qa, .ref qm, .ref qs, .ref qp, .ref ql, .ref qt, .ref qz, .ref qf])), (qf, .inl (cI, 7, .inl f2_110)), (g0, .inr (9, [.ref m_ys, .ref m_yk, .ref m_yo, .ref m_yt, .int b0, .ref m_yfa, .ref m_yfe, .int m_mL, .int m_mS, .int m_mM, .ref m_yro, .ref m_yhe, .ref m_ygr, .int m_mF, .int m_mC, .int m_mY, .ref m_yta, .int (nI (z)), .int (nI (m_mf)), .int (nI (m_mt)), .int m_mv, .int m_mw, .ref m_ywa, .ref m_ybi, .ref m_ysi, .ref m_ynu, .ref m_ymo])), (m_yt, .inl (cI, 7, .inl mq2_112))] ++ tl) H := hP
      have hD : va_D A ([(qz, .inl (cS, 4, .inr (.inr (.inr (.inr (xSh s0 s1 s2 s3)))))), (s0, .inr (4, [.int bt0, .int (nI (sz0)), .ref sn0])), (s1, .inr (4, [.int bt1, .int (nI (sz1)), .ref sn1])), (s2, .inr (4, [.int bt2, .int (nI (sz2)), .ref sn2])), (s3, .inr (4, [.int bt3, .int (nI (sz3)), .ref sn3])), (sn0, .inl (cJ, 40, .inr (.inl nu0))), (sn1, .inl (cJ, 40, .inr (.inl nu1))), (sn2, .inl (cJ, 40, .inr (.inl nu2))), (sn3, .inl (cJ, 40, .inr (.inl nu3))), (m_ybi, .inl (cI, 4, .inl m_bi)), (m_ysi, .inl (cI, 4, .inl m_sq)), (m_ynu, .inl (cJ, 160, .inr (.inl m_nb))), (m_ymo, .inl (cJ, 40, .inr (.inl m_mv9))), (h0, .inr (8, [.ref qh, .ref qk, .ref qd, .int b0, .ref qa, .ref qm, .ref qs, .ref qp, .ref ql, .ref qt, .ref qz, .ref qf])), (qf, .inl (cI, 7, .inl f2_110)), (g0, .inr (9, [.ref m_ys, .ref m_yk, .ref m_yo, .ref m_yt, .int b0, .ref m_yfa, .ref m_yfe, .int m_mL, .int m_mS, .int m_mM, .ref m_yro, .ref m_yhe, .ref m_ygr, .int m_mF, .int m_mC, .int m_mY, .ref m_yta, .int (nI (z)), .int (nI (m_mf)), .int (nI (m_mt)), .int m_mv, .int m_mw, .ref m_ywa, .ref m_ybi, .ref m_ysi, .ref m_ynu, .ref m_ymo])), (m_yt, .inl (cI, 7, .inl mq2_112))] ++ tl) := hD
      subst hw_r_111
      refine lv_pop hx hb dL_law_1338 rfl ?_
      refine lv_goto (tgt := 1483) hx hb dL_law_1339 (by decide) ?_
      exact kkx _ _ _ nu0 nu1 nu2 nu3 f2_110 mq2_112 m_nb m_mv9 (xt_P hP [13, 0, 1, 2, 3, 4, 5, 6, 7, 8, 14, 15, 16, 9, 10, 11, 12] rfl) (xt_D hD [13, 0, 1, 2, 3, 4, 5, 6, 7, 8, 14, 15, 16, 9, 10, 11, 12] (by decide +kernel) rfl) r_n0 r_n1 r_n2 r_n3 hS hl
    · skip
      refine lv_aload_n hx hb dL_law_1280 rfl (lv_at hl 3 rfl) ?_
      refine lv_iload_n hx hb dL_law_1281 rfl (lv_at hl 0 rfl) ?_
      refine lv_iconst (v := 1) hx hb dL_law_1282 (by decide) ?_
      refine lv_iadd hx hb dL_law_1283 ?_
      refine xl_i (y := nI (i + 1)) (nI_add i 1) ?_
      refine va_sld hx hb hX hbl hbA hS (x_si (k := 1) (by decide) hi hL) dL_law_1284 ?_
      refine xl_i (y := xs (i + 1)) (congrArg xs (x_sc (k := 1) (by decide) hi hL)) ?_
      refine xl_i (y := 2) eq1 ?_
      refine lv_aload_n hx hb dL_law_1285 rfl (lv_at hl 3 rfl) ?_
      refine lv_iload_n hx hb dL_law_1286 rfl (lv_at hl 0 rfl) ?_
      refine lv_iconst (v := 2) hx hb dL_law_1287 (by decide) ?_
      refine lv_iadd hx hb dL_law_1288 ?_
      refine xl_i (y := nI (i + 2)) (nI_add i 2) ?_
      refine va_sld hx hb hX hbl hbA hS (x_si (k := 2) (by decide) hi hL) dL_law_1289 ?_
      refine xl_i (y := xs (i + 2)) (congrArg xs (x_sc (k := 2) (by decide) hi hL)) ?_
      refine lv_aload_n hx hb dL_law_1290 rfl (lv_at hl 3 rfl) ?_
      refine lv_iload_n hx hb dL_law_1291 rfl (lv_at hl 0 rfl) ?_
      refine lv_iconst (v := 3) hx hb dL_law_1292 (by decide) ?_
      refine lv_iadd hx hb dL_law_1293 ?_
      refine xl_i (y := nI (i + 3)) (nI_add i 3) ?_
      refine va_sld hx hb hX hbl hbA hS (x_si (k := 3) (by decide) hi hL) dL_law_1294 ?_
      refine xl_i (y := xs (i + 3)) (congrArg xs (x_sc (k := 3) (by decide) hi hL)) ?_
      refine xl_i (y := 0) eq3 ?_
      refine lv_aload_n hx hb dL_law_1295 rfl (lv_at hl 3 rfl) ?_
      refine lv_iload_n hx hb dL_law_1296 rfl (lv_at hl 0 rfl) ?_
      refine lv_iconst (v := 4) hx hb dL_law_1297 (by decide) ?_
      refine lv_iadd hx hb dL_law_1298 ?_
      refine xl_i (y := nI (i + 4)) (nI_add i 4) ?_
      refine va_sld hx hb hX hbl hbA hS (x_si (k := 4) (by decide) hi hL) dL_law_1299 ?_
      refine xl_i (y := xs (i + 4)) (congrArg xs (x_sc (k := 4) (by decide) hi hL)) ?_
      refine lv_aload_n hx hb dL_law_1300 rfl (lv_at hl 3 rfl) ?_
      refine lv_iload_n hx hb dL_law_1301 rfl (lv_at hl 0 rfl) ?_
      refine lv_iconst (v := 5) hx hb dL_law_1302 (by decide) ?_
      refine lv_iadd hx hb dL_law_1303 ?_
      refine xl_i (y := nI (i + 5)) (nI_add i 5) ?_
      refine va_sld hx hb hX hbl hbA hS (x_si (k := 5) (by decide) hi hL) dL_law_1304 ?_
      refine xl_i (y := xs (i + 5)) (congrArg xs (x_sc (k := 5) (by decide) hi hL)) ?_
      refine xc_ViT (wr := [(g0, .inr (9, [.ref m_ys, .ref m_yk, .ref m_yo, .ref m_yt, .int b0, .ref m_yfa, .ref m_yfe, .int m_mL, .int m_mS, .int m_mM, .ref m_yro, .ref m_yhe, .ref m_ygr, .int m_mF, .int m_mC, .int m_mY, .ref m_yta, .int (nI (z)), .int (nI (m_mf)), .int (nI (m_mt)), .int m_mv, .int m_mw, .ref m_ywa, .ref m_ybi, .ref m_ysi, .ref m_ynu, .ref m_ymo])), (m_yt, .inl (cI, 7, .inl m_mq)), (m_ybi, .inl (cI, 4, .inl m_bi)), (m_ysi, .inl (cI, 4, .inl m_sq)), (m_ynu, .inl (cJ, 160, .inr (.inl m_nb))), (m_ymo, .inl (cJ, 40, .inr (.inl m_mv9)))]) hF (c_X8_copy_20 l D cI cJ cZ cS ta sa sv H.size h0 qh qk qd b0 qa qm qs qp ql qt qz qf s0 s1 s2 s3 bt0 sz0 sn0 bt1 sz1 sn1 bt2 sz2 sn2 bt3 sz3 sn3 nu0 nu1 nu2 nu3 ff (xs (i + 2)) (xs (i + 4)) (xs (i + 5)) hsz0 hsz1 hsz2 hsz3) kv_L_166 ⟨rfl, rfl, Nat.le_of_ble_eq_true rfl, Nat.le_of_ble_eq_true rfl⟩ ⟨Nat.le_of_ble_eq_true rfl, Nat.le_of_ble_eq_true rfl⟩ hK hN hZ hP hD hS hA [0, 1, 2, 3, 4, 5, 6, 7, 8, 9, 10] [11, 12, 13, 14, 15, 16] rfl rfl rfl rfl (by decide) 0 rfl rfl rfl rfl hl.1 rfl (Nat.le_of_ble_eq_true rfl) dL_law_1305 (fun r_113 u_r_113 H locs hw_r_113 hP hD hS => ?_)
      obtain ⟨nv_114, f2_115⟩ := u_r_113
      try dsimp only at hw_r_113
      obtain ⟨hw_r_113, i_116⟩ := hw_r_113
      have hP : va_P D vwCl ([(g0, .inr (9, [.ref m_ys, .ref m_yk, .ref m_yo, .ref m_yt, .int b0, .ref m_yfa, .ref m_yfe, .int m_mL, .int m_mS, .int m_mM, .ref m_yro, .ref m_yhe, .ref m_ygr, .int m_mF, .int m_mC, .int m_mY, .ref m_yta, .int (nI (z)), .int (nI (m_mf)), .int (nI (m_mt)), .int m_mv, .int m_mw, .ref m_ywa, .ref m_ybi, .ref m_ysi, .ref m_ynu, .ref m_ymo])), (m_yt, .inl (cI, 7, .inl m_mq)), (m_ybi, .inl (cI, 4, .inl m_bi)), (m_ysi, .inl (cI, 4, .inl m_sq)), (m_ynu, .inl (cJ, 160, .inr (.inl m_nb))), (m_ymo, .inl (cJ, 40, .inr (.inl m_mv9))), (h0, .inr (8, [.ref qh, .ref qk, .ref qd, .int b0, .ref qa, .ref qm, .ref qs, .ref qp, .ref ql, .ref qt, .ref qz, .ref qf])), (qz, .inl (cS, 4, .inr (.inr (.inr (.inr (xSh s0 s1 s2 s3)))))), (s0, .inr (4, [.int bt0, .int (nI (sz0)), .ref sn0])), (s1, .inr (4, [.int bt1, .int (nI (sz1)), .ref sn1])), (s2, .inr (4, [.int bt2, .int (nI (sz2)), .ref sn2])), (s3, .inr (4, [.int bt3, .int (nI (sz3)), .ref sn3])), (sn0, .inl (cJ, 40, .inr (.inl nv_114))), (sn1, .inl (cJ, 40, .inr (.inl nu1))), (sn2, .inl (cJ, 40, .inr (.inl nu2))), (sn3, .inl (cJ, 40, .inr (.inl nu3))), (qf, .inl (cI, 7, .inl f2_115))] ++ tl) H := hP
      have hD : va_D A ([(g0, .inr (9, [.ref m_ys, .ref m_yk, .ref m_yo, .ref m_yt, .int b0, .ref m_yfa, .ref m_yfe, .int m_mL, .int m_mS, .int m_mM, .ref m_yro, .ref m_yhe, .ref m_ygr, .int m_mF, .int m_mC, .int m_mY, .ref m_yta, .int (nI (z)), .int (nI (m_mf)), .int (nI (m_mt)), .int m_mv, .int m_mw, .ref m_ywa, .ref m_ybi, .ref m_ysi, .ref m_ynu, .ref m_ymo])), (m_yt, .inl (cI, 7, .inl m_mq)), (m_ybi, .inl (cI, 4, .inl m_bi)), (m_ysi, .inl (cI, 4, .inl m_sq)), (m_ynu, .inl (cJ, 160, .inr (.inl m_nb))), (m_ymo, .inl (cJ, 40, .inr (.inl m_mv9))), (h0, .inr (8, [.ref qh, .ref qk, .ref qd, .int b0, .ref qa, .ref qm, .ref qs, .ref qp, .ref ql, .ref qt, .ref qz, .ref qf])), (qz, .inl (cS, 4, .inr (.inr (.inr (.inr (xSh s0 s1 s2 s3)))))), (s0, .inr (4, [.int bt0, .int (nI (sz0)), .ref sn0])), (s1, .inr (4, [.int bt1, .int (nI (sz1)), .ref sn1])), (s2, .inr (4, [.int bt2, .int (nI (sz2)), .ref sn2])), (s3, .inr (4, [.int bt3, .int (nI (sz3)), .ref sn3])), (sn0, .inl (cJ, 40, .inr (.inl nv_114))), (sn1, .inl (cJ, 40, .inr (.inl nu1))), (sn2, .inl (cJ, 40, .inr (.inl nu2))), (sn3, .inl (cJ, 40, .inr (.inl nu3))), (qf, .inl (cI, 7, .inl f2_115))] ++ tl) := hD
      subst hw_r_113
      refine lv_pop hx hb dL_law_1308 rfl ?_
      refine lv_aload_n hx hb dL_law_1309 rfl (lv_at hl 1 rfl) ?_
      refine lv_aload_n hx hb dL_law_1310 rfl (lv_at hl 3 rfl) ?_
      refine lv_iload_n hx hb dL_law_1311 rfl (lv_at hl 0 rfl) ?_
      refine lv_iconst (v := 1) hx hb dL_law_1312 (by decide) ?_
      refine lv_iadd hx hb dL_law_1313 ?_
      refine xl_i (y := nI (i + 1)) (nI_add i 1) ?_
      refine va_sld hx hb hX hbl hbA hS (x_si (k := 1) (by decide) hi hL) dL_law_1314 ?_
      refine xl_i (y := xs (i + 1)) (congrArg xs (x_sc (k := 1) (by decide) hi hL)) ?_
      refine xl_i (y := 2) eq1 ?_
      refine lv_aload_n hx hb dL_law_1315 rfl (lv_at hl 3 rfl) ?_
      refine lv_iload_n hx hb dL_law_1316 rfl (lv_at hl 0 rfl) ?_
      refine lv_iconst (v := 2) hx hb dL_law_1317 (by decide) ?_
      refine lv_iadd hx hb dL_law_1318 ?_
      refine xl_i (y := nI (i + 2)) (nI_add i 2) ?_
      refine va_sld hx hb hX hbl hbA hS (x_si (k := 2) (by decide) hi hL) dL_law_1319 ?_
      refine xl_i (y := xs (i + 2)) (congrArg xs (x_sc (k := 2) (by decide) hi hL)) ?_
      refine lv_aload_n hx hb dL_law_1320 rfl (lv_at hl 3 rfl) ?_
      refine lv_iload_n hx hb dL_law_1321 rfl (lv_at hl 0 rfl) ?_
      refine lv_iconst (v := 3) hx hb dL_law_1322 (by decide) ?_
      refine lv_iadd hx hb dL_law_1323 ?_
      refine xl_i (y := nI (i + 3)) (nI_add i 3) ?_
      refine va_sld hx hb hX hbl hbA hS (x_si (k := 3) (by decide) hi hL) dL_law_1324 ?_
      refine xl_i (y := xs (i + 3)) (congrArg xs (x_sc (k := 3) (by decide) hi hL)) ?_
      refine xl_i (y := 0) eq3 ?_
      refine lv_aload_n hx hb dL_law_1325 rfl (lv_at hl 3 rfl) ?_
      refine lv_iload_n hx hb dL_law_1326 rfl (lv_at hl 0 rfl) ?_
      refine lv_iconst (v := 4) hx hb dL_law_1327 (by decide) ?_
      refine lv_iadd hx hb dL_law_1328 ?_
      refine xl_i (y := nI (i + 4)) (nI_add i 4) ?_
      refine va_sld hx hb hX hbl hbA hS (x_si (k := 4) (by decide) hi hL) dL_law_1329 ?_
      refine xl_i (y := xs (i + 4)) (congrArg xs (x_sc (k := 4) (by decide) hi hL)) ?_
      refine lv_aload_n hx hb dL_law_1330 rfl (lv_at hl 3 rfl) ?_
      refine lv_iload_n hx hb dL_law_1331 rfl (lv_at hl 0 rfl) ?_
      refine lv_iconst (v := 5) hx hb dL_law_1332 (by decide) ?_
      refine lv_iadd hx hb dL_law_1333 ?_
      refine xl_i (y := nI (i + 5)) (nI_add i 5) ?_
      refine va_sld hx hb hX hbl hbA hS (x_si (k := 5) (by decide) hi hL) dL_law_1334 ?_
      refine xl_i (y := xs (i + 5)) (congrArg xs (x_sc (k := 5) (by decide) hi hL)) ?_
      refine xc_ViT (wr := [(h0, .inr (8, [.ref qh, .ref qk, .ref qd, .int b0, .ref qa, .ref qm, .ref qs, .ref qp, .ref ql, .ref qt, .ref qz, .ref qf])), (qz, .inl (cS, 4, .inr (.inr (.inr (.inr (xSh s0 s1 s2 s3)))))), (s0, .inr (4, [.int bt0, .int (nI (sz0)), .ref sn0])), (s1, .inr (4, [.int bt1, .int (nI (sz1)), .ref sn1])), (s2, .inr (4, [.int bt2, .int (nI (sz2)), .ref sn2])), (s3, .inr (4, [.int bt3, .int (nI (sz3)), .ref sn3])), (sn0, .inl (cJ, 40, .inr (.inl nv_114))), (sn1, .inl (cJ, 40, .inr (.inl nu1))), (sn2, .inl (cJ, 40, .inr (.inl nu2))), (sn3, .inl (cJ, 40, .inr (.inl nu3))), (qf, .inl (cI, 7, .inl f2_115))]) hF (c_X9_copy_20 l D cI cJ cZ cS ta sa sv H.size g0 m_ys m_yk m_yo m_yt b0 m_yfa m_yfe m_mL m_mS m_mM m_yro m_yhe m_ygr m_mF m_mC m_mY m_yta z m_mf m_mt m_mv m_mw m_ywa m_ybi m_ysi m_ynu m_ymo m_bi m_sq m_nb m_mv9 m_mq (xs (i + 2)) (xs (i + 4)) (xs (i + 5)) sz2 sz0 r_z2 hsz2 r_z0 hsz0 m_hsq) kv_L_170 ⟨rfl, rfl, Nat.le_of_ble_eq_true rfl, Nat.le_of_ble_eq_true rfl⟩ ⟨Nat.le_of_ble_eq_true rfl, Nat.le_of_ble_eq_true rfl⟩ hK hN hZ hP hD hS hA [0, 2, 3, 4, 5, 1] [6, 7, 8, 9, 10, 11, 12, 13, 14, 15, 16] rfl rfl rfl rfl (by decide) 0 rfl rfl rfl rfl hl.1 rfl (Nat.le_of_ble_eq_true rfl) dL_law_1335 (fun r_117 u_r_117 H locs hw_r_117 hP hD hS => ?_)
      obtain ⟨nb2_118, mv2_119, mq2_120⟩ := u_r_117
      try dsimp only at hw_r_117
      obtain ⟨hw_r_117, i_121, i_122⟩ := hw_r_117
      have hP : va_P D vwCl ([(h0, .inr (8, [.ref qh, .ref qk, .ref qd, .int b0, .ref qa, .ref qm, .ref qs, .ref qp, .ref ql, .ref qt, .ref qz, .ref qf])), (qz, .inl (cS, 4, .inr (.inr (.inr (.inr (xSh s0 s1 s2 s3)))))), (s0, .inr (4, [.int bt0, .int (nI (sz0)), .ref sn0])), (s1, .inr (4, [.int bt1, .int (nI (sz1)), .ref sn1])), (s2, .inr (4, [.int bt2, .int (nI (sz2)), .ref sn2])), (s3, .inr (4, [.int bt3, .int (nI (sz3)), .ref sn3])), (sn0, .inl (cJ, 40, .inr (.inl nv_114))), (sn1, .inl (cJ, 40, .inr (.inl nu1))), (sn2, .inl (cJ, 40, .inr (.inl nu2))), (sn3, .inl (cJ, 40, .inr (.inl nu3))), (qf, .inl (cI, 7, .inl f2_115)), (g0, .inr (9, [.ref m_ys, .ref m_yk, .ref m_yo, .ref m_yt, .int b0, .ref m_yfa, .ref m_yfe, .int m_mL, .int m_mS, .int m_mM, .ref m_yro, .ref m_yhe, .ref m_ygr, .int m_mF, .int m_mC, .int m_mY, .ref m_yta, .int (nI (z)), .int (nI (m_mf)), .int (nI (m_mt)), .int m_mv, .int m_mw, .ref m_ywa, .ref m_ybi, .ref m_ysi, .ref m_ynu, .ref m_ymo])), (m_ybi, .inl (cI, 4, .inl m_bi)), (m_ysi, .inl (cI, 4, .inl m_sq)), (m_ynu, .inl (cJ, 160, .inr (.inl nb2_118))), (m_ymo, .inl (cJ, 40, .inr (.inl mv2_119))), (m_yt, .inl (cI, 7, .inl mq2_120))] ++ tl) H := hP
      have hD : va_D A ([(h0, .inr (8, [.ref qh, .ref qk, .ref qd, .int b0, .ref qa, .ref qm, .ref qs, .ref qp, .ref ql, .ref qt, .ref qz, .ref qf])), (qz, .inl (cS, 4, .inr (.inr (.inr (.inr (xSh s0 s1 s2 s3)))))), (s0, .inr (4, [.int bt0, .int (nI (sz0)), .ref sn0])), (s1, .inr (4, [.int bt1, .int (nI (sz1)), .ref sn1])), (s2, .inr (4, [.int bt2, .int (nI (sz2)), .ref sn2])), (s3, .inr (4, [.int bt3, .int (nI (sz3)), .ref sn3])), (sn0, .inl (cJ, 40, .inr (.inl nv_114))), (sn1, .inl (cJ, 40, .inr (.inl nu1))), (sn2, .inl (cJ, 40, .inr (.inl nu2))), (sn3, .inl (cJ, 40, .inr (.inl nu3))), (qf, .inl (cI, 7, .inl f2_115)), (g0, .inr (9, [.ref m_ys, .ref m_yk, .ref m_yo, .ref m_yt, .int b0, .ref m_yfa, .ref m_yfe, .int m_mL, .int m_mS, .int m_mM, .ref m_yro, .ref m_yhe, .ref m_ygr, .int m_mF, .int m_mC, .int m_mY, .ref m_yta, .int (nI (z)), .int (nI (m_mf)), .int (nI (m_mt)), .int m_mv, .int m_mw, .ref m_ywa, .ref m_ybi, .ref m_ysi, .ref m_ynu, .ref m_ymo])), (m_ybi, .inl (cI, 4, .inl m_bi)), (m_ysi, .inl (cI, 4, .inl m_sq)), (m_ynu, .inl (cJ, 160, .inr (.inl nb2_118))), (m_ymo, .inl (cJ, 40, .inr (.inl mv2_119))), (m_yt, .inl (cI, 7, .inl mq2_120))] ++ tl) := hD
      subst hw_r_117
      refine lv_pop hx hb dL_law_1338 rfl ?_
      refine lv_goto (tgt := 1483) hx hb dL_law_1339 (by decide) ?_
      exact kkx _ _ _ nv_114 nu1 nu2 nu3 f2_115 mq2_120 nb2_118 mv2_119 (xt_P hP [0, 1, 2, 3, 4, 5, 6, 7, 8, 9, 10, 11, 16, 12, 13, 14, 15] rfl) (xt_D hD [0, 1, 2, 3, 4, 5, 6, 7, 8, 9, 10, 11, 16, 12, 13, 14, 15] (by decide +kernel) rfl) (fun j hj => (i_121 j).trans ((sp_cneq r_b2 r_b0 r_n2 (by omega) (r_n0 j hj)).trans (i_116 j).symm)) (fun j hj => (i_122 (40 + j) (by omega)).trans (r_n1 j hj)) (fun j hj => (i_122 (80 + j) (by omega)).trans (r_n2 j hj)) (fun j hj => (i_122 (120 + j) (by omega)).trans (r_n3 j hj)) hS hl
    · skip
      refine lv_aload_n hx hb dL_law_1280 rfl (lv_at hl 3 rfl) ?_
      refine lv_iload_n hx hb dL_law_1281 rfl (lv_at hl 0 rfl) ?_
      refine lv_iconst (v := 1) hx hb dL_law_1282 (by decide) ?_
      refine lv_iadd hx hb dL_law_1283 ?_
      refine xl_i (y := nI (i + 1)) (nI_add i 1) ?_
      refine va_sld hx hb hX hbl hbA hS (x_si (k := 1) (by decide) hi hL) dL_law_1284 ?_
      refine xl_i (y := xs (i + 1)) (congrArg xs (x_sc (k := 1) (by decide) hi hL)) ?_
      refine xl_i (y := 2) eq1 ?_
      refine lv_aload_n hx hb dL_law_1285 rfl (lv_at hl 3 rfl) ?_
      refine lv_iload_n hx hb dL_law_1286 rfl (lv_at hl 0 rfl) ?_
      refine lv_iconst (v := 2) hx hb dL_law_1287 (by decide) ?_
      refine lv_iadd hx hb dL_law_1288 ?_
      refine xl_i (y := nI (i + 2)) (nI_add i 2) ?_
      refine va_sld hx hb hX hbl hbA hS (x_si (k := 2) (by decide) hi hL) dL_law_1289 ?_
      refine xl_i (y := xs (i + 2)) (congrArg xs (x_sc (k := 2) (by decide) hi hL)) ?_
      refine lv_aload_n hx hb dL_law_1290 rfl (lv_at hl 3 rfl) ?_
      refine lv_iload_n hx hb dL_law_1291 rfl (lv_at hl 0 rfl) ?_
      refine lv_iconst (v := 3) hx hb dL_law_1292 (by decide) ?_
      refine lv_iadd hx hb dL_law_1293 ?_
      refine xl_i (y := nI (i + 3)) (nI_add i 3) ?_
      refine va_sld hx hb hX hbl hbA hS (x_si (k := 3) (by decide) hi hL) dL_law_1294 ?_
      refine xl_i (y := xs (i + 3)) (congrArg xs (x_sc (k := 3) (by decide) hi hL)) ?_
      refine xl_i (y := 1) eq3 ?_
      refine lv_aload_n hx hb dL_law_1295 rfl (lv_at hl 3 rfl) ?_
      refine lv_iload_n hx hb dL_law_1296 rfl (lv_at hl 0 rfl) ?_
      refine lv_iconst (v := 4) hx hb dL_law_1297 (by decide) ?_
      refine lv_iadd hx hb dL_law_1298 ?_
      refine xl_i (y := nI (i + 4)) (nI_add i 4) ?_
      refine va_sld hx hb hX hbl hbA hS (x_si (k := 4) (by decide) hi hL) dL_law_1299 ?_
      refine xl_i (y := xs (i + 4)) (congrArg xs (x_sc (k := 4) (by decide) hi hL)) ?_
      refine lv_aload_n hx hb dL_law_1300 rfl (lv_at hl 3 rfl) ?_
      refine lv_iload_n hx hb dL_law_1301 rfl (lv_at hl 0 rfl) ?_
      refine lv_iconst (v := 5) hx hb dL_law_1302 (by decide) ?_
      refine lv_iadd hx hb dL_law_1303 ?_
      refine xl_i (y := nI (i + 5)) (nI_add i 5) ?_
      refine va_sld hx hb hX hbl hbA hS (x_si (k := 5) (by decide) hi hL) dL_law_1304 ?_
      refine xl_i (y := xs (i + 5)) (congrArg xs (x_sc (k := 5) (by decide) hi hL)) ?_
      refine xc_ViT (wr := [(g0, .inr (9, [.ref m_ys, .ref m_yk, .ref m_yo, .ref m_yt, .int b0, .ref m_yfa, .ref m_yfe, .int m_mL, .int m_mS, .int m_mM, .ref m_yro, .ref m_yhe, .ref m_ygr, .int m_mF, .int m_mC, .int m_mY, .ref m_yta, .int (nI (z)), .int (nI (m_mf)), .int (nI (m_mt)), .int m_mv, .int m_mw, .ref m_ywa, .ref m_ybi, .ref m_ysi, .ref m_ynu, .ref m_ymo])), (m_yt, .inl (cI, 7, .inl m_mq)), (m_ybi, .inl (cI, 4, .inl m_bi)), (m_ysi, .inl (cI, 4, .inl m_sq)), (m_ynu, .inl (cJ, 160, .inr (.inl m_nb))), (m_ymo, .inl (cJ, 40, .inr (.inl m_mv9)))]) hF (c_X8_copy_21 l D cI cJ cZ cS ta sa sv H.size h0 qh qk qd b0 qa qm qs qp ql qt qz qf s0 s1 s2 s3 bt0 sz0 sn0 bt1 sz1 sn1 bt2 sz2 sn2 bt3 sz3 sn3 nu0 nu1 nu2 nu3 ff (xs (i + 2)) (xs (i + 4)) (xs (i + 5)) hsz0 hsz1 hsz2 hsz3) kv_L_166 ⟨rfl, rfl, Nat.le_of_ble_eq_true rfl, Nat.le_of_ble_eq_true rfl⟩ ⟨Nat.le_of_ble_eq_true rfl, Nat.le_of_ble_eq_true rfl⟩ hK hN hZ hP hD hS hA [0, 1, 2, 3, 4, 5, 6, 7, 8, 9, 10] [11, 12, 13, 14, 15, 16] rfl rfl rfl rfl (by decide) 0 rfl rfl rfl rfl hl.1 rfl (Nat.le_of_ble_eq_true rfl) dL_law_1305 (fun r_123 u_r_123 H locs hw_r_123 hP hD hS => ?_)
      obtain ⟨nv_124, f2_125⟩ := u_r_123
      try dsimp only at hw_r_123
      obtain ⟨hw_r_123, i_126⟩ := hw_r_123
      have hP : va_P D vwCl ([(g0, .inr (9, [.ref m_ys, .ref m_yk, .ref m_yo, .ref m_yt, .int b0, .ref m_yfa, .ref m_yfe, .int m_mL, .int m_mS, .int m_mM, .ref m_yro, .ref m_yhe, .ref m_ygr, .int m_mF, .int m_mC, .int m_mY, .ref m_yta, .int (nI (z)), .int (nI (m_mf)), .int (nI (m_mt)), .int m_mv, .int m_mw, .ref m_ywa, .ref m_ybi, .ref m_ysi, .ref m_ynu, .ref m_ymo])), (m_yt, .inl (cI, 7, .inl m_mq)), (m_ybi, .inl (cI, 4, .inl m_bi)), (m_ysi, .inl (cI, 4, .inl m_sq)), (m_ynu, .inl (cJ, 160, .inr (.inl m_nb))), (m_ymo, .inl (cJ, 40, .inr (.inl m_mv9))), (h0, .inr (8, [.ref qh, .ref qk, .ref qd, .int b0, .ref qa, .ref qm, .ref qs, .ref qp, .ref ql, .ref qt, .ref qz, .ref qf])), (qz, .inl (cS, 4, .inr (.inr (.inr (.inr (xSh s0 s1 s2 s3)))))), (s0, .inr (4, [.int bt0, .int (nI (sz0)), .ref sn0])), (s1, .inr (4, [.int bt1, .int (nI (sz1)), .ref sn1])), (s2, .inr (4, [.int bt2, .int (nI (sz2)), .ref sn2])), (s3, .inr (4, [.int bt3, .int (nI (sz3)), .ref sn3])), (sn0, .inl (cJ, 40, .inr (.inl nu0))), (sn1, .inl (cJ, 40, .inr (.inl nv_124))), (sn2, .inl (cJ, 40, .inr (.inl nu2))), (sn3, .inl (cJ, 40, .inr (.inl nu3))), (qf, .inl (cI, 7, .inl f2_125))] ++ tl) H := hP
      have hD : va_D A ([(g0, .inr (9, [.ref m_ys, .ref m_yk, .ref m_yo, .ref m_yt, .int b0, .ref m_yfa, .ref m_yfe, .int m_mL, .int m_mS, .int m_mM, .ref m_yro, .ref m_yhe, .ref m_ygr, .int m_mF, .int m_mC, .int m_mY, .ref m_yta, .int (nI (z)), .int (nI (m_mf)), .int (nI (m_mt)), .int m_mv, .int m_mw, .ref m_ywa, .ref m_ybi, .ref m_ysi, .ref m_ynu, .ref m_ymo])), (m_yt, .inl (cI, 7, .inl m_mq)), (m_ybi, .inl (cI, 4, .inl m_bi)), (m_ysi, .inl (cI, 4, .inl m_sq)), (m_ynu, .inl (cJ, 160, .inr (.inl m_nb))), (m_ymo, .inl (cJ, 40, .inr (.inl m_mv9))), (h0, .inr (8, [.ref qh, .ref qk, .ref qd, .int b0, .ref qa, .ref qm, .ref qs, .ref qp, .ref ql, .ref qt, .ref qz, .ref qf])), (qz, .inl (cS, 4, .inr (.inr (.inr (.inr (xSh s0 s1 s2 s3)))))), (s0, .inr (4, [.int bt0, .int (nI (sz0)), .ref sn0])), (s1, .inr (4, [.int bt1, .int (nI (sz1)), .ref sn1])), (s2, .inr (4, [.int bt2, .int (nI (sz2)), .ref sn2])), (s3, .inr (4, [.int bt3, .int (nI (sz3)), .ref sn3])), (sn0, .inl (cJ, 40, .inr (.inl nu0))), (sn1, .inl (cJ, 40, .inr (.inl nv_124))), (sn2, .inl (cJ, 40, .inr (.inl nu2))), (sn3, .inl (cJ, 40, .inr (.inl nu3))), (qf, .inl (cI, 7, .inl f2_125))] ++ tl) := hD
      subst hw_r_123
      refine lv_pop hx hb dL_law_1308 rfl ?_
      refine lv_aload_n hx hb dL_law_1309 rfl (lv_at hl 1 rfl) ?_
      refine lv_aload_n hx hb dL_law_1310 rfl (lv_at hl 3 rfl) ?_
      refine lv_iload_n hx hb dL_law_1311 rfl (lv_at hl 0 rfl) ?_
      refine lv_iconst (v := 1) hx hb dL_law_1312 (by decide) ?_
      refine lv_iadd hx hb dL_law_1313 ?_
      refine xl_i (y := nI (i + 1)) (nI_add i 1) ?_
      refine va_sld hx hb hX hbl hbA hS (x_si (k := 1) (by decide) hi hL) dL_law_1314 ?_
      refine xl_i (y := xs (i + 1)) (congrArg xs (x_sc (k := 1) (by decide) hi hL)) ?_
      refine xl_i (y := 2) eq1 ?_
      refine lv_aload_n hx hb dL_law_1315 rfl (lv_at hl 3 rfl) ?_
      refine lv_iload_n hx hb dL_law_1316 rfl (lv_at hl 0 rfl) ?_
      refine lv_iconst (v := 2) hx hb dL_law_1317 (by decide) ?_
      refine lv_iadd hx hb dL_law_1318 ?_
      refine xl_i (y := nI (i + 2)) (nI_add i 2) ?_
      refine va_sld hx hb hX hbl hbA hS (x_si (k := 2) (by decide) hi hL) dL_law_1319 ?_
      refine xl_i (y := xs (i + 2)) (congrArg xs (x_sc (k := 2) (by decide) hi hL)) ?_
      refine lv_aload_n hx hb dL_law_1320 rfl (lv_at hl 3 rfl) ?_
      refine lv_iload_n hx hb dL_law_1321 rfl (lv_at hl 0 rfl) ?_
      refine lv_iconst (v := 3) hx hb dL_law_1322 (by decide) ?_
      refine lv_iadd hx hb dL_law_1323 ?_
      refine xl_i (y := nI (i + 3)) (nI_add i 3) ?_
      refine va_sld hx hb hX hbl hbA hS (x_si (k := 3) (by decide) hi hL) dL_law_1324 ?_
      refine xl_i (y := xs (i + 3)) (congrArg xs (x_sc (k := 3) (by decide) hi hL)) ?_
      refine xl_i (y := 1) eq3 ?_
      refine lv_aload_n hx hb dL_law_1325 rfl (lv_at hl 3 rfl) ?_
      refine lv_iload_n hx hb dL_law_1326 rfl (lv_at hl 0 rfl) ?_
      refine lv_iconst (v := 4) hx hb dL_law_1327 (by decide) ?_
      refine lv_iadd hx hb dL_law_1328 ?_
      refine xl_i (y := nI (i + 4)) (nI_add i 4) ?_
      refine va_sld hx hb hX hbl hbA hS (x_si (k := 4) (by decide) hi hL) dL_law_1329 ?_
      refine xl_i (y := xs (i + 4)) (congrArg xs (x_sc (k := 4) (by decide) hi hL)) ?_
      refine lv_aload_n hx hb dL_law_1330 rfl (lv_at hl 3 rfl) ?_
      refine lv_iload_n hx hb dL_law_1331 rfl (lv_at hl 0 rfl) ?_
      refine lv_iconst (v := 5) hx hb dL_law_1332 (by decide) ?_
      refine lv_iadd hx hb dL_law_1333 ?_
      refine xl_i (y := nI (i + 5)) (nI_add i 5) ?_
      refine va_sld hx hb hX hbl hbA hS (x_si (k := 5) (by decide) hi hL) dL_law_1334 ?_
      refine xl_i (y := xs (i + 5)) (congrArg xs (x_sc (k := 5) (by decide) hi hL)) ?_
      refine xc_ViT (wr := [(h0, .inr (8, [.ref qh, .ref qk, .ref qd, .int b0, .ref qa, .ref qm, .ref qs, .ref qp, .ref ql, .ref qt, .ref qz, .ref qf])), (qz, .inl (cS, 4, .inr (.inr (.inr (.inr (xSh s0 s1 s2 s3)))))), (s0, .inr (4, [.int bt0, .int (nI (sz0)), .ref sn0])), (s1, .inr (4, [.int bt1, .int (nI (sz1)), .ref sn1])), (s2, .inr (4, [.int bt2, .int (nI (sz2)), .ref sn2])), (s3, .inr (4, [.int bt3, .int (nI (sz3)), .ref sn3])), (sn0, .inl (cJ, 40, .inr (.inl nu0))), (sn1, .inl (cJ, 40, .inr (.inl nv_124))), (sn2, .inl (cJ, 40, .inr (.inl nu2))), (sn3, .inl (cJ, 40, .inr (.inl nu3))), (qf, .inl (cI, 7, .inl f2_125))]) hF (c_X9_copy_21 l D cI cJ cZ cS ta sa sv H.size g0 m_ys m_yk m_yo m_yt b0 m_yfa m_yfe m_mL m_mS m_mM m_yro m_yhe m_ygr m_mF m_mC m_mY m_yta z m_mf m_mt m_mv m_mw m_ywa m_ybi m_ysi m_ynu m_ymo m_bi m_sq m_nb m_mv9 m_mq (xs (i + 2)) (xs (i + 4)) (xs (i + 5)) sz2 sz1 r_z2 hsz2 r_z1 hsz1 m_hsq) kv_L_170 ⟨rfl, rfl, Nat.le_of_ble_eq_true rfl, Nat.le_of_ble_eq_true rfl⟩ ⟨Nat.le_of_ble_eq_true rfl, Nat.le_of_ble_eq_true rfl⟩ hK hN hZ hP hD hS hA [0, 2, 3, 4, 5, 1] [6, 7, 8, 9, 10, 11, 12, 13, 14, 15, 16] rfl rfl rfl rfl (by decide) 0 rfl rfl rfl rfl hl.1 rfl (Nat.le_of_ble_eq_true rfl) dL_law_1335 (fun r_127 u_r_127 H locs hw_r_127 hP hD hS => ?_)
      obtain ⟨nb2_128, mv2_129, mq2_130⟩ := u_r_127
      try dsimp only at hw_r_127
      obtain ⟨hw_r_127, i_131, i_132⟩ := hw_r_127
      have hP : va_P D vwCl ([(h0, .inr (8, [.ref qh, .ref qk, .ref qd, .int b0, .ref qa, .ref qm, .ref qs, .ref qp, .ref ql, .ref qt, .ref qz, .ref qf])), (qz, .inl (cS, 4, .inr (.inr (.inr (.inr (xSh s0 s1 s2 s3)))))), (s0, .inr (4, [.int bt0, .int (nI (sz0)), .ref sn0])), (s1, .inr (4, [.int bt1, .int (nI (sz1)), .ref sn1])), (s2, .inr (4, [.int bt2, .int (nI (sz2)), .ref sn2])), (s3, .inr (4, [.int bt3, .int (nI (sz3)), .ref sn3])), (sn0, .inl (cJ, 40, .inr (.inl nu0))), (sn1, .inl (cJ, 40, .inr (.inl nv_124))), (sn2, .inl (cJ, 40, .inr (.inl nu2))), (sn3, .inl (cJ, 40, .inr (.inl nu3))), (qf, .inl (cI, 7, .inl f2_125)), (g0, .inr (9, [.ref m_ys, .ref m_yk, .ref m_yo, .ref m_yt, .int b0, .ref m_yfa, .ref m_yfe, .int m_mL, .int m_mS, .int m_mM, .ref m_yro, .ref m_yhe, .ref m_ygr, .int m_mF, .int m_mC, .int m_mY, .ref m_yta, .int (nI (z)), .int (nI (m_mf)), .int (nI (m_mt)), .int m_mv, .int m_mw, .ref m_ywa, .ref m_ybi, .ref m_ysi, .ref m_ynu, .ref m_ymo])), (m_ybi, .inl (cI, 4, .inl m_bi)), (m_ysi, .inl (cI, 4, .inl m_sq)), (m_ynu, .inl (cJ, 160, .inr (.inl nb2_128))), (m_ymo, .inl (cJ, 40, .inr (.inl mv2_129))), (m_yt, .inl (cI, 7, .inl mq2_130))] ++ tl) H := hP
      have hD : va_D A ([(h0, .inr (8, [.ref qh, .ref qk, .ref qd, .int b0, .ref qa, .ref qm, .ref qs, .ref qp, .ref ql, .ref qt, .ref qz, .ref qf])), (qz, .inl (cS, 4, .inr (.inr (.inr (.inr (xSh s0 s1 s2 s3)))))), (s0, .inr (4, [.int bt0, .int (nI (sz0)), .ref sn0])), (s1, .inr (4, [.int bt1, .int (nI (sz1)), .ref sn1])), (s2, .inr (4, [.int bt2, .int (nI (sz2)), .ref sn2])), (s3, .inr (4, [.int bt3, .int (nI (sz3)), .ref sn3])), (sn0, .inl (cJ, 40, .inr (.inl nu0))), (sn1, .inl (cJ, 40, .inr (.inl nv_124))), (sn2, .inl (cJ, 40, .inr (.inl nu2))), (sn3, .inl (cJ, 40, .inr (.inl nu3))), (qf, .inl (cI, 7, .inl f2_125)), (g0, .inr (9, [.ref m_ys, .ref m_yk, .ref m_yo, .ref m_yt, .int b0, .ref m_yfa, .ref m_yfe, .int m_mL, .int m_mS, .int m_mM, .ref m_yro, .ref m_yhe, .ref m_ygr, .int m_mF, .int m_mC, .int m_mY, .ref m_yta, .int (nI (z)), .int (nI (m_mf)), .int (nI (m_mt)), .int m_mv, .int m_mw, .ref m_ywa, .ref m_ybi, .ref m_ysi, .ref m_ynu, .ref m_ymo])), (m_ybi, .inl (cI, 4, .inl m_bi)), (m_ysi, .inl (cI, 4, .inl m_sq)), (m_ynu, .inl (cJ, 160, .inr (.inl nb2_128))), (m_ymo, .inl (cJ, 40, .inr (.inl mv2_129))), (m_yt, .inl (cI, 7, .inl mq2_130))] ++ tl) := hD
      subst hw_r_127
      refine lv_pop hx hb dL_law_1338 rfl ?_
      refine lv_goto (tgt := 1483) hx hb dL_law_1339 (by decide) ?_
      exact kkx _ _ _ nu0 nv_124 nu2 nu3 f2_125 mq2_130 nb2_128 mv2_129 (xt_P hP [0, 1, 2, 3, 4, 5, 6, 7, 8, 9, 10, 11, 16, 12, 13, 14, 15] rfl) (xt_D hD [0, 1, 2, 3, 4, 5, 6, 7, 8, 9, 10, 11, 16, 12, 13, 14, 15] (by decide +kernel) rfl) (fun j hj => (i_132 (0 + j) (by omega)).trans (r_n0 j hj)) (fun j hj => (i_131 j).trans ((sp_cneq r_b2 r_b1 r_n2 (by omega) (r_n1 j hj)).trans (i_126 j).symm)) (fun j hj => (i_132 (80 + j) (by omega)).trans (r_n2 j hj)) (fun j hj => (i_132 (120 + j) (by omega)).trans (r_n3 j hj)) hS hl
    · skip
      refine lv_aload_n hx hb dL_law_1280 rfl (lv_at hl 3 rfl) ?_
      refine lv_iload_n hx hb dL_law_1281 rfl (lv_at hl 0 rfl) ?_
      refine lv_iconst (v := 1) hx hb dL_law_1282 (by decide) ?_
      refine lv_iadd hx hb dL_law_1283 ?_
      refine xl_i (y := nI (i + 1)) (nI_add i 1) ?_
      refine va_sld hx hb hX hbl hbA hS (x_si (k := 1) (by decide) hi hL) dL_law_1284 ?_
      refine xl_i (y := xs (i + 1)) (congrArg xs (x_sc (k := 1) (by decide) hi hL)) ?_
      refine xl_i (y := 2) eq1 ?_
      refine lv_aload_n hx hb dL_law_1285 rfl (lv_at hl 3 rfl) ?_
      refine lv_iload_n hx hb dL_law_1286 rfl (lv_at hl 0 rfl) ?_
      refine lv_iconst (v := 2) hx hb dL_law_1287 (by decide) ?_
      refine lv_iadd hx hb dL_law_1288 ?_
      refine xl_i (y := nI (i + 2)) (nI_add i 2) ?_
      refine va_sld hx hb hX hbl hbA hS (x_si (k := 2) (by decide) hi hL) dL_law_1289 ?_
      refine xl_i (y := xs (i + 2)) (congrArg xs (x_sc (k := 2) (by decide) hi hL)) ?_
      refine lv_aload_n hx hb dL_law_1290 rfl (lv_at hl 3 rfl) ?_
      refine lv_iload_n hx hb dL_law_1291 rfl (lv_at hl 0 rfl) ?_
      refine lv_iconst (v := 3) hx hb dL_law_1292 (by decide) ?_
      refine lv_iadd hx hb dL_law_1293 ?_
      refine xl_i (y := nI (i + 3)) (nI_add i 3) ?_
      refine va_sld hx hb hX hbl hbA hS (x_si (k := 3) (by decide) hi hL) dL_law_1294 ?_
      refine xl_i (y := xs (i + 3)) (congrArg xs (x_sc (k := 3) (by decide) hi hL)) ?_
      refine xl_i (y := 2) eq3 ?_
      refine lv_aload_n hx hb dL_law_1295 rfl (lv_at hl 3 rfl) ?_
      refine lv_iload_n hx hb dL_law_1296 rfl (lv_at hl 0 rfl) ?_
      refine lv_iconst (v := 4) hx hb dL_law_1297 (by decide) ?_
      refine lv_iadd hx hb dL_law_1298 ?_
      refine xl_i (y := nI (i + 4)) (nI_add i 4) ?_
      refine va_sld hx hb hX hbl hbA hS (x_si (k := 4) (by decide) hi hL) dL_law_1299 ?_
      refine xl_i (y := xs (i + 4)) (congrArg xs (x_sc (k := 4) (by decide) hi hL)) ?_
      refine lv_aload_n hx hb dL_law_1300 rfl (lv_at hl 3 rfl) ?_
      refine lv_iload_n hx hb dL_law_1301 rfl (lv_at hl 0 rfl) ?_
      refine lv_iconst (v := 5) hx hb dL_law_1302 (by decide) ?_
      refine lv_iadd hx hb dL_law_1303 ?_
      refine xl_i (y := nI (i + 5)) (nI_add i 5) ?_
      refine va_sld hx hb hX hbl hbA hS (x_si (k := 5) (by decide) hi hL) dL_law_1304 ?_
      refine xl_i (y := xs (i + 5)) (congrArg xs (x_sc (k := 5) (by decide) hi hL)) ?_
      refine xc_ViT (wr := [(g0, .inr (9, [.ref m_ys, .ref m_yk, .ref m_yo, .ref m_yt, .int b0, .ref m_yfa, .ref m_yfe, .int m_mL, .int m_mS, .int m_mM, .ref m_yro, .ref m_yhe, .ref m_ygr, .int m_mF, .int m_mC, .int m_mY, .ref m_yta, .int (nI (z)), .int (nI (m_mf)), .int (nI (m_mt)), .int m_mv, .int m_mw, .ref m_ywa, .ref m_ybi, .ref m_ysi, .ref m_ynu, .ref m_ymo])), (m_yt, .inl (cI, 7, .inl m_mq)), (m_ybi, .inl (cI, 4, .inl m_bi)), (m_ysi, .inl (cI, 4, .inl m_sq)), (m_ynu, .inl (cJ, 160, .inr (.inl m_nb))), (m_ymo, .inl (cJ, 40, .inr (.inl m_mv9)))]) hF (c_X8_copy_22 l D cI cJ cZ cS ta sa sv H.size h0 qh qk qd b0 qa qm qs qp ql qt qz qf s0 s1 s2 s3 bt0 sz0 sn0 bt1 sz1 sn1 bt2 sz2 sn2 bt3 sz3 sn3 nu0 nu1 nu2 nu3 ff (xs (i + 2)) (xs (i + 4)) (xs (i + 5)) hsz0 hsz1 hsz2 hsz3) kv_L_166 ⟨rfl, rfl, Nat.le_of_ble_eq_true rfl, Nat.le_of_ble_eq_true rfl⟩ ⟨Nat.le_of_ble_eq_true rfl, Nat.le_of_ble_eq_true rfl⟩ hK hN hZ hP hD hS hA [0, 1, 2, 3, 4, 5, 6, 7, 8, 9, 10] [11, 12, 13, 14, 15, 16] rfl rfl rfl rfl (by decide) 0 rfl rfl rfl rfl hl.1 rfl (Nat.le_of_ble_eq_true rfl) dL_law_1305 (fun r_133 u_r_133 H locs hw_r_133 hP hD hS => ?_)
      obtain ⟨nv_134, f2_135⟩ := u_r_133
      try dsimp only at hw_r_133
      obtain ⟨hw_r_133, i_136⟩ := hw_r_133
      have hP : va_P D vwCl ([(g0, .inr (9, [.ref m_ys, .ref m_yk, .ref m_yo, .ref m_yt, .int b0, .ref m_yfa, .ref m_yfe, .int m_mL, .int m_mS, .int m_mM, .ref m_yro, .ref m_yhe, .ref m_ygr, .int m_mF, .int m_mC, .int m_mY, .ref m_yta, .int (nI (z)), .int (nI (m_mf)), .int (nI (m_mt)), .int m_mv, .int m_mw, .ref m_ywa, .ref m_ybi, .ref m_ysi, .ref m_ynu, .ref m_ymo])), (m_yt, .inl (cI, 7, .inl m_mq)), (m_ybi, .inl (cI, 4, .inl m_bi)), (m_ysi, .inl (cI, 4, .inl m_sq)), (m_ynu, .inl (cJ, 160, .inr (.inl m_nb))), (m_ymo, .inl (cJ, 40, .inr (.inl m_mv9))), (h0, .inr (8, [.ref qh, .ref qk, .ref qd, .int b0, .ref qa, .ref qm, .ref qs, .ref qp, .ref ql, .ref qt, .ref qz, .ref qf])), (qz, .inl (cS, 4, .inr (.inr (.inr (.inr (xSh s0 s1 s2 s3)))))), (s0, .inr (4, [.int bt0, .int (nI (sz0)), .ref sn0])), (s1, .inr (4, [.int bt1, .int (nI (sz1)), .ref sn1])), (s2, .inr (4, [.int bt2, .int (nI (sz2)), .ref sn2])), (s3, .inr (4, [.int bt3, .int (nI (sz3)), .ref sn3])), (sn0, .inl (cJ, 40, .inr (.inl nu0))), (sn1, .inl (cJ, 40, .inr (.inl nu1))), (sn2, .inl (cJ, 40, .inr (.inl nv_134))), (sn3, .inl (cJ, 40, .inr (.inl nu3))), (qf, .inl (cI, 7, .inl f2_135))] ++ tl) H := hP
      have hD : va_D A ([(g0, .inr (9, [.ref m_ys, .ref m_yk, .ref m_yo, .ref m_yt, .int b0, .ref m_yfa, .ref m_yfe, .int m_mL, .int m_mS, .int m_mM, .ref m_yro, .ref m_yhe, .ref m_ygr, .int m_mF, .int m_mC, .int m_mY, .ref m_yta, .int (nI (z)), .int (nI (m_mf)), .int (nI (m_mt)), .int m_mv, .int m_mw, .ref m_ywa, .ref m_ybi, .ref m_ysi, .ref m_ynu, .ref m_ymo])), (m_yt, .inl (cI, 7, .inl m_mq)), (m_ybi, .inl (cI, 4, .inl m_bi)), (m_ysi, .inl (cI, 4, .inl m_sq)), (m_ynu, .inl (cJ, 160, .inr (.inl m_nb))), (m_ymo, .inl (cJ, 40, .inr (.inl m_mv9))), (h0, .inr (8, [.ref qh, .ref qk, .ref qd, .int b0, .ref qa, .ref qm, .ref qs, .ref qp, .ref ql, .ref qt, .ref qz, .ref qf])), (qz, .inl (cS, 4, .inr (.inr (.inr (.inr (xSh s0 s1 s2 s3)))))), (s0, .inr (4, [.int bt0, .int (nI (sz0)), .ref sn0])), (s1, .inr (4, [.int bt1, .int (nI (sz1)), .ref sn1])), (s2, .inr (4, [.int bt2, .int (nI (sz2)), .ref sn2])), (s3, .inr (4, [.int bt3, .int (nI (sz3)), .ref sn3])), (sn0, .inl (cJ, 40, .inr (.inl nu0))), (sn1, .inl (cJ, 40, .inr (.inl nu1))), (sn2, .inl (cJ, 40, .inr (.inl nv_134))), (sn3, .inl (cJ, 40, .inr (.inl nu3))), (qf, .inl (cI, 7, .inl f2_135))] ++ tl) := hD
      subst hw_r_133
      refine lv_pop hx hb dL_law_1308 rfl ?_
      refine lv_aload_n hx hb dL_law_1309 rfl (lv_at hl 1 rfl) ?_
      refine lv_aload_n hx hb dL_law_1310 rfl (lv_at hl 3 rfl) ?_
      refine lv_iload_n hx hb dL_law_1311 rfl (lv_at hl 0 rfl) ?_
      refine lv_iconst (v := 1) hx hb dL_law_1312 (by decide) ?_
      refine lv_iadd hx hb dL_law_1313 ?_
      refine xl_i (y := nI (i + 1)) (nI_add i 1) ?_
      refine va_sld hx hb hX hbl hbA hS (x_si (k := 1) (by decide) hi hL) dL_law_1314 ?_
      refine xl_i (y := xs (i + 1)) (congrArg xs (x_sc (k := 1) (by decide) hi hL)) ?_
      refine xl_i (y := 2) eq1 ?_
      refine lv_aload_n hx hb dL_law_1315 rfl (lv_at hl 3 rfl) ?_
      refine lv_iload_n hx hb dL_law_1316 rfl (lv_at hl 0 rfl) ?_
      refine lv_iconst (v := 2) hx hb dL_law_1317 (by decide) ?_
      refine lv_iadd hx hb dL_law_1318 ?_
      refine xl_i (y := nI (i + 2)) (nI_add i 2) ?_
      refine va_sld hx hb hX hbl hbA hS (x_si (k := 2) (by decide) hi hL) dL_law_1319 ?_
      refine xl_i (y := xs (i + 2)) (congrArg xs (x_sc (k := 2) (by decide) hi hL)) ?_
      refine lv_aload_n hx hb dL_law_1320 rfl (lv_at hl 3 rfl) ?_
      refine lv_iload_n hx hb dL_law_1321 rfl (lv_at hl 0 rfl) ?_
      refine lv_iconst (v := 3) hx hb dL_law_1322 (by decide) ?_
      refine lv_iadd hx hb dL_law_1323 ?_
      refine xl_i (y := nI (i + 3)) (nI_add i 3) ?_
      refine va_sld hx hb hX hbl hbA hS (x_si (k := 3) (by decide) hi hL) dL_law_1324 ?_
      refine xl_i (y := xs (i + 3)) (congrArg xs (x_sc (k := 3) (by decide) hi hL)) ?_
      refine xl_i (y := 2) eq3 ?_
      refine lv_aload_n hx hb dL_law_1325 rfl (lv_at hl 3 rfl) ?_
      refine lv_iload_n hx hb dL_law_1326 rfl (lv_at hl 0 rfl) ?_
      refine lv_iconst (v := 4) hx hb dL_law_1327 (by decide) ?_
      refine lv_iadd hx hb dL_law_1328 ?_
      refine xl_i (y := nI (i + 4)) (nI_add i 4) ?_
      refine va_sld hx hb hX hbl hbA hS (x_si (k := 4) (by decide) hi hL) dL_law_1329 ?_
      refine xl_i (y := xs (i + 4)) (congrArg xs (x_sc (k := 4) (by decide) hi hL)) ?_
      refine lv_aload_n hx hb dL_law_1330 rfl (lv_at hl 3 rfl) ?_
      refine lv_iload_n hx hb dL_law_1331 rfl (lv_at hl 0 rfl) ?_
      refine lv_iconst (v := 5) hx hb dL_law_1332 (by decide) ?_
      refine lv_iadd hx hb dL_law_1333 ?_
      refine xl_i (y := nI (i + 5)) (nI_add i 5) ?_
      refine va_sld hx hb hX hbl hbA hS (x_si (k := 5) (by decide) hi hL) dL_law_1334 ?_
      refine xl_i (y := xs (i + 5)) (congrArg xs (x_sc (k := 5) (by decide) hi hL)) ?_
      refine xc_ViT (wr := [(h0, .inr (8, [.ref qh, .ref qk, .ref qd, .int b0, .ref qa, .ref qm, .ref qs, .ref qp, .ref ql, .ref qt, .ref qz, .ref qf])), (qz, .inl (cS, 4, .inr (.inr (.inr (.inr (xSh s0 s1 s2 s3)))))), (s0, .inr (4, [.int bt0, .int (nI (sz0)), .ref sn0])), (s1, .inr (4, [.int bt1, .int (nI (sz1)), .ref sn1])), (s2, .inr (4, [.int bt2, .int (nI (sz2)), .ref sn2])), (s3, .inr (4, [.int bt3, .int (nI (sz3)), .ref sn3])), (sn0, .inl (cJ, 40, .inr (.inl nu0))), (sn1, .inl (cJ, 40, .inr (.inl nu1))), (sn2, .inl (cJ, 40, .inr (.inl nv_134))), (sn3, .inl (cJ, 40, .inr (.inl nu3))), (qf, .inl (cI, 7, .inl f2_135))]) hF (c_X9_copy_22 l D cI cJ cZ cS ta sa sv H.size g0 m_ys m_yk m_yo m_yt b0 m_yfa m_yfe m_mL m_mS m_mM m_yro m_yhe m_ygr m_mF m_mC m_mY m_yta z m_mf m_mt m_mv m_mw m_ywa m_ybi m_ysi m_ynu m_ymo m_bi m_sq m_nb m_mv9 m_mq (xs (i + 2)) (xs (i + 4)) (xs (i + 5)) sz2 sz2 r_z2 hsz2 r_z2 hsz2 m_hsq) kv_L_170 ⟨rfl, rfl, Nat.le_of_ble_eq_true rfl, Nat.le_of_ble_eq_true rfl⟩ ⟨Nat.le_of_ble_eq_true rfl, Nat.le_of_ble_eq_true rfl⟩ hK hN hZ hP hD hS hA [0, 2, 3, 4, 5, 1] [6, 7, 8, 9, 10, 11, 12, 13, 14, 15, 16] rfl rfl rfl rfl (by decide) 0 rfl rfl rfl rfl hl.1 rfl (Nat.le_of_ble_eq_true rfl) dL_law_1335 (fun r_137 u_r_137 H locs hw_r_137 hP hD hS => ?_)
      obtain ⟨nb2_138, mv2_139, mq2_140⟩ := u_r_137
      try dsimp only at hw_r_137
      obtain ⟨hw_r_137, i_141, i_142⟩ := hw_r_137
      have hP : va_P D vwCl ([(h0, .inr (8, [.ref qh, .ref qk, .ref qd, .int b0, .ref qa, .ref qm, .ref qs, .ref qp, .ref ql, .ref qt, .ref qz, .ref qf])), (qz, .inl (cS, 4, .inr (.inr (.inr (.inr (xSh s0 s1 s2 s3)))))), (s0, .inr (4, [.int bt0, .int (nI (sz0)), .ref sn0])), (s1, .inr (4, [.int bt1, .int (nI (sz1)), .ref sn1])), (s2, .inr (4, [.int bt2, .int (nI (sz2)), .ref sn2])), (s3, .inr (4, [.int bt3, .int (nI (sz3)), .ref sn3])), (sn0, .inl (cJ, 40, .inr (.inl nu0))), (sn1, .inl (cJ, 40, .inr (.inl nu1))), (sn2, .inl (cJ, 40, .inr (.inl nv_134))), (sn3, .inl (cJ, 40, .inr (.inl nu3))), (qf, .inl (cI, 7, .inl f2_135)), (g0, .inr (9, [.ref m_ys, .ref m_yk, .ref m_yo, .ref m_yt, .int b0, .ref m_yfa, .ref m_yfe, .int m_mL, .int m_mS, .int m_mM, .ref m_yro, .ref m_yhe, .ref m_ygr, .int m_mF, .int m_mC, .int m_mY, .ref m_yta, .int (nI (z)), .int (nI (m_mf)), .int (nI (m_mt)), .int m_mv, .int m_mw, .ref m_ywa, .ref m_ybi, .ref m_ysi, .ref m_ynu, .ref m_ymo])), (m_ybi, .inl (cI, 4, .inl m_bi)), (m_ysi, .inl (cI, 4, .inl m_sq)), (m_ynu, .inl (cJ, 160, .inr (.inl nb2_138))), (m_ymo, .inl (cJ, 40, .inr (.inl mv2_139))), (m_yt, .inl (cI, 7, .inl mq2_140))] ++ tl) H := hP
      have hD : va_D A ([(h0, .inr (8, [.ref qh, .ref qk, .ref qd, .int b0, .ref qa, .ref qm, .ref qs, .ref qp, .ref ql, .ref qt, .ref qz, .ref qf])), (qz, .inl (cS, 4, .inr (.inr (.inr (.inr (xSh s0 s1 s2 s3)))))), (s0, .inr (4, [.int bt0, .int (nI (sz0)), .ref sn0])), (s1, .inr (4, [.int bt1, .int (nI (sz1)), .ref sn1])), (s2, .inr (4, [.int bt2, .int (nI (sz2)), .ref sn2])), (s3, .inr (4, [.int bt3, .int (nI (sz3)), .ref sn3])), (sn0, .inl (cJ, 40, .inr (.inl nu0))), (sn1, .inl (cJ, 40, .inr (.inl nu1))), (sn2, .inl (cJ, 40, .inr (.inl nv_134))), (sn3, .inl (cJ, 40, .inr (.inl nu3))), (qf, .inl (cI, 7, .inl f2_135)), (g0, .inr (9, [.ref m_ys, .ref m_yk, .ref m_yo, .ref m_yt, .int b0, .ref m_yfa, .ref m_yfe, .int m_mL, .int m_mS, .int m_mM, .ref m_yro, .ref m_yhe, .ref m_ygr, .int m_mF, .int m_mC, .int m_mY, .ref m_yta, .int (nI (z)), .int (nI (m_mf)), .int (nI (m_mt)), .int m_mv, .int m_mw, .ref m_ywa, .ref m_ybi, .ref m_ysi, .ref m_ynu, .ref m_ymo])), (m_ybi, .inl (cI, 4, .inl m_bi)), (m_ysi, .inl (cI, 4, .inl m_sq)), (m_ynu, .inl (cJ, 160, .inr (.inl nb2_138))), (m_ymo, .inl (cJ, 40, .inr (.inl mv2_139))), (m_yt, .inl (cI, 7, .inl mq2_140))] ++ tl) := hD
      subst hw_r_137
      refine lv_pop hx hb dL_law_1338 rfl ?_
      refine lv_goto (tgt := 1483) hx hb dL_law_1339 (by decide) ?_
      exact kkx _ _ _ nu0 nu1 nv_134 nu3 f2_135 mq2_140 nb2_138 mv2_139 (xt_P hP [0, 1, 2, 3, 4, 5, 6, 7, 8, 9, 10, 11, 16, 12, 13, 14, 15] rfl) (xt_D hD [0, 1, 2, 3, 4, 5, 6, 7, 8, 9, 10, 11, 16, 12, 13, 14, 15] (by decide +kernel) rfl) (fun j hj => (i_142 (0 + j) (by omega)).trans (r_n0 j hj)) (fun j hj => (i_142 (40 + j) (by omega)).trans (r_n1 j hj)) (fun j hj => (i_141 j).trans ((sp_cneq r_b2 r_b2 r_n2 (by omega) (r_n2 j hj)).trans (i_136 j).symm)) (fun j hj => (i_142 (120 + j) (by omega)).trans (r_n3 j hj)) hS hl
    · skip
      refine lv_aload_n hx hb dL_law_1280 rfl (lv_at hl 3 rfl) ?_
      refine lv_iload_n hx hb dL_law_1281 rfl (lv_at hl 0 rfl) ?_
      refine lv_iconst (v := 1) hx hb dL_law_1282 (by decide) ?_
      refine lv_iadd hx hb dL_law_1283 ?_
      refine xl_i (y := nI (i + 1)) (nI_add i 1) ?_
      refine va_sld hx hb hX hbl hbA hS (x_si (k := 1) (by decide) hi hL) dL_law_1284 ?_
      refine xl_i (y := xs (i + 1)) (congrArg xs (x_sc (k := 1) (by decide) hi hL)) ?_
      refine xl_i (y := 2) eq1 ?_
      refine lv_aload_n hx hb dL_law_1285 rfl (lv_at hl 3 rfl) ?_
      refine lv_iload_n hx hb dL_law_1286 rfl (lv_at hl 0 rfl) ?_
      refine lv_iconst (v := 2) hx hb dL_law_1287 (by decide) ?_
      refine lv_iadd hx hb dL_law_1288 ?_
      refine xl_i (y := nI (i + 2)) (nI_add i 2) ?_
      refine va_sld hx hb hX hbl hbA hS (x_si (k := 2) (by decide) hi hL) dL_law_1289 ?_
      refine xl_i (y := xs (i + 2)) (congrArg xs (x_sc (k := 2) (by decide) hi hL)) ?_
      refine lv_aload_n hx hb dL_law_1290 rfl (lv_at hl 3 rfl) ?_
      refine lv_iload_n hx hb dL_law_1291 rfl (lv_at hl 0 rfl) ?_
      refine lv_iconst (v := 3) hx hb dL_law_1292 (by decide) ?_
      refine lv_iadd hx hb dL_law_1293 ?_
      refine xl_i (y := nI (i + 3)) (nI_add i 3) ?_
      refine va_sld hx hb hX hbl hbA hS (x_si (k := 3) (by decide) hi hL) dL_law_1294 ?_
      refine xl_i (y := xs (i + 3)) (congrArg xs (x_sc (k := 3) (by decide) hi hL)) ?_
      refine xl_i (y := 3) eq3 ?_
      refine lv_aload_n hx hb dL_law_1295 rfl (lv_at hl 3 rfl) ?_
      refine lv_iload_n hx hb dL_law_1296 rfl (lv_at hl 0 rfl) ?_
      refine lv_iconst (v := 4) hx hb dL_law_1297 (by decide) ?_
      refine lv_iadd hx hb dL_law_1298 ?_
      refine xl_i (y := nI (i + 4)) (nI_add i 4) ?_
      refine va_sld hx hb hX hbl hbA hS (x_si (k := 4) (by decide) hi hL) dL_law_1299 ?_
      refine xl_i (y := xs (i + 4)) (congrArg xs (x_sc (k := 4) (by decide) hi hL)) ?_
      refine lv_aload_n hx hb dL_law_1300 rfl (lv_at hl 3 rfl) ?_
      refine lv_iload_n hx hb dL_law_1301 rfl (lv_at hl 0 rfl) ?_
      refine lv_iconst (v := 5) hx hb dL_law_1302 (by decide) ?_
      refine lv_iadd hx hb dL_law_1303 ?_
      refine xl_i (y := nI (i + 5)) (nI_add i 5) ?_
      refine va_sld hx hb hX hbl hbA hS (x_si (k := 5) (by decide) hi hL) dL_law_1304 ?_
      refine xl_i (y := xs (i + 5)) (congrArg xs (x_sc (k := 5) (by decide) hi hL)) ?_
      refine xc_ViT (wr := [(g0, .inr (9, [.ref m_ys, .ref m_yk, .ref m_yo, .ref m_yt, .int b0, .ref m_yfa, .ref m_yfe, .int m_mL, .int m_mS, .int m_mM, .ref m_yro, .ref m_yhe, .ref m_ygr, .int m_mF, .int m_mC, .int m_mY, .ref m_yta, .int (nI (z)), .int (nI (m_mf)), .int (nI (m_mt)), .int m_mv, .int m_mw, .ref m_ywa, .ref m_ybi, .ref m_ysi, .ref m_ynu, .ref m_ymo])), (m_yt, .inl (cI, 7, .inl m_mq)), (m_ybi, .inl (cI, 4, .inl m_bi)), (m_ysi, .inl (cI, 4, .inl m_sq)), (m_ynu, .inl (cJ, 160, .inr (.inl m_nb))), (m_ymo, .inl (cJ, 40, .inr (.inl m_mv9)))]) hF (c_X8_copy_23 l D cI cJ cZ cS ta sa sv H.size h0 qh qk qd b0 qa qm qs qp ql qt qz qf s0 s1 s2 s3 bt0 sz0 sn0 bt1 sz1 sn1 bt2 sz2 sn2 bt3 sz3 sn3 nu0 nu1 nu2 nu3 ff (xs (i + 2)) (xs (i + 4)) (xs (i + 5)) hsz0 hsz1 hsz2 hsz3) kv_L_166 ⟨rfl, rfl, Nat.le_of_ble_eq_true rfl, Nat.le_of_ble_eq_true rfl⟩ ⟨Nat.le_of_ble_eq_true rfl, Nat.le_of_ble_eq_true rfl⟩ hK hN hZ hP hD hS hA [0, 1, 2, 3, 4, 5, 6, 7, 8, 9, 10] [11, 12, 13, 14, 15, 16] rfl rfl rfl rfl (by decide) 0 rfl rfl rfl rfl hl.1 rfl (Nat.le_of_ble_eq_true rfl) dL_law_1305 (fun r_143 u_r_143 H locs hw_r_143 hP hD hS => ?_)
      obtain ⟨nv_144, f2_145⟩ := u_r_143
      try dsimp only at hw_r_143
      obtain ⟨hw_r_143, i_146⟩ := hw_r_143
      have hP : va_P D vwCl ([(g0, .inr (9, [.ref m_ys, .ref m_yk, .ref m_yo, .ref m_yt, .int b0, .ref m_yfa, .ref m_yfe, .int m_mL, .int m_mS, .int m_mM, .ref m_yro, .ref m_yhe, .ref m_ygr, .int m_mF, .int m_mC, .int m_mY, .ref m_yta, .int (nI (z)), .int (nI (m_mf)), .int (nI (m_mt)), .int m_mv, .int m_mw, .ref m_ywa, .ref m_ybi, .ref m_ysi, .ref m_ynu, .ref m_ymo])), (m_yt, .inl (cI, 7, .inl m_mq)), (m_ybi, .inl (cI, 4, .inl m_bi)), (m_ysi, .inl (cI, 4, .inl m_sq)), (m_ynu, .inl (cJ, 160, .inr (.inl m_nb))), (m_ymo, .inl (cJ, 40, .inr (.inl m_mv9))), (h0, .inr (8, [.ref qh, .ref qk, .ref qd, .int b0, .ref qa, .ref qm, .ref qs, .ref qp, .ref ql, .ref qt, .ref qz, .ref qf])), (qz, .inl (cS, 4, .inr (.inr (.inr (.inr (xSh s0 s1 s2 s3)))))), (s0, .inr (4, [.int bt0, .int (nI (sz0)), .ref sn0])), (s1, .inr (4, [.int bt1, .int (nI (sz1)), .ref sn1])), (s2, .inr (4, [.int bt2, .int (nI (sz2)), .ref sn2])), (s3, .inr (4, [.int bt3, .int (nI (sz3)), .ref sn3])), (sn0, .inl (cJ, 40, .inr (.inl nu0))), (sn1, .inl (cJ, 40, .inr (.inl nu1))), (sn2, .inl (cJ, 40, .inr (.inl nu2))), (sn3, .inl (cJ, 40, .inr (.inl nv_144))), (qf, .inl (cI, 7, .inl f2_145))] ++ tl) H := hP
      have hD : va_D A ([(g0, .inr (9, [.ref m_ys, .ref m_yk, .ref m_yo, .ref m_yt, .int b0, .ref m_yfa, .ref m_yfe, .int m_mL, .int m_mS, .int m_mM, .ref m_yro, .ref m_yhe, .ref m_ygr, .int m_mF, .int m_mC, .int m_mY, .ref m_yta, .int (nI (z)), .int (nI (m_mf)), .int (nI (m_mt)), .int m_mv, .int m_mw, .ref m_ywa, .ref m_ybi, .ref m_ysi, .ref m_ynu, .ref m_ymo])), (m_yt, .inl (cI, 7, .inl m_mq)), (m_ybi, .inl (cI, 4, .inl m_bi)), (m_ysi, .inl (cI, 4, .inl m_sq)), (m_ynu, .inl (cJ, 160, .inr (.inl m_nb))), (m_ymo, .inl (cJ, 40, .inr (.inl m_mv9))), (h0, .inr (8, [.ref qh, .ref qk, .ref qd, .int b0, .ref qa, .ref qm, .ref qs, .ref qp, .ref ql, .ref qt, .ref qz, .ref qf])), (qz, .inl (cS, 4, .inr (.inr (.inr (.inr (xSh s0 s1 s2 s3)))))), (s0, .inr (4, [.int bt0, .int (nI (sz0)), .ref sn0])), (s1, .inr (4, [.int bt1, .int (nI (sz1)), .ref sn1])), (s2, .inr (4, [.int bt2, .int (nI (sz2)), .ref sn2])), (s3, .inr (4, [.int bt3, .int (nI (sz3)), .ref sn3])), (sn0, .inl (cJ, 40, .inr (.inl nu0))), (sn1, .inl (cJ, 40, .inr (.inl nu1))), (sn2, .inl (cJ, 40, .inr (.inl nu2))), (sn3, .inl (cJ, 40, .inr (.inl nv_144))), (qf, .inl (cI, 7, .inl f2_145))] ++ tl) := hD
      subst hw_r_143
      refine lv_pop hx hb dL_law_1308 rfl ?_
      refine lv_aload_n hx hb dL_law_1309 rfl (lv_at hl 1 rfl) ?_
      refine lv_aload_n hx hb dL_law_1310 rfl (lv_at hl 3 rfl) ?_
      refine lv_iload_n hx hb dL_law_1311 rfl (lv_at hl 0 rfl) ?_
      refine lv_iconst (v := 1) hx hb dL_law_1312 (by decide) ?_
      refine lv_iadd hx hb dL_law_1313 ?_
      refine xl_i (y := nI (i + 1)) (nI_add i 1) ?_
      refine va_sld hx hb hX hbl hbA hS (x_si (k := 1) (by decide) hi hL) dL_law_1314 ?_
      refine xl_i (y := xs (i + 1)) (congrArg xs (x_sc (k := 1) (by decide) hi hL)) ?_
      refine xl_i (y := 2) eq1 ?_
      refine lv_aload_n hx hb dL_law_1315 rfl (lv_at hl 3 rfl) ?_
      refine lv_iload_n hx hb dL_law_1316 rfl (lv_at hl 0 rfl) ?_
      refine lv_iconst (v := 2) hx hb dL_law_1317 (by decide) ?_
      refine lv_iadd hx hb dL_law_1318 ?_
      refine xl_i (y := nI (i + 2)) (nI_add i 2) ?_
      refine va_sld hx hb hX hbl hbA hS (x_si (k := 2) (by decide) hi hL) dL_law_1319 ?_
      refine xl_i (y := xs (i + 2)) (congrArg xs (x_sc (k := 2) (by decide) hi hL)) ?_
      refine lv_aload_n hx hb dL_law_1320 rfl (lv_at hl 3 rfl) ?_
      refine lv_iload_n hx hb dL_law_1321 rfl (lv_at hl 0 rfl) ?_
      refine lv_iconst (v := 3) hx hb dL_law_1322 (by decide) ?_
      refine lv_iadd hx hb dL_law_1323 ?_
      refine xl_i (y := nI (i + 3)) (nI_add i 3) ?_
      refine va_sld hx hb hX hbl hbA hS (x_si (k := 3) (by decide) hi hL) dL_law_1324 ?_
      refine xl_i (y := xs (i + 3)) (congrArg xs (x_sc (k := 3) (by decide) hi hL)) ?_
      refine xl_i (y := 3) eq3 ?_
      refine lv_aload_n hx hb dL_law_1325 rfl (lv_at hl 3 rfl) ?_
      refine lv_iload_n hx hb dL_law_1326 rfl (lv_at hl 0 rfl) ?_
      refine lv_iconst (v := 4) hx hb dL_law_1327 (by decide) ?_
      refine lv_iadd hx hb dL_law_1328 ?_
      refine xl_i (y := nI (i + 4)) (nI_add i 4) ?_
      refine va_sld hx hb hX hbl hbA hS (x_si (k := 4) (by decide) hi hL) dL_law_1329 ?_
      refine xl_i (y := xs (i + 4)) (congrArg xs (x_sc (k := 4) (by decide) hi hL)) ?_
      refine lv_aload_n hx hb dL_law_1330 rfl (lv_at hl 3 rfl) ?_
      refine lv_iload_n hx hb dL_law_1331 rfl (lv_at hl 0 rfl) ?_
      refine lv_iconst (v := 5) hx hb dL_law_1332 (by decide) ?_
      refine lv_iadd hx hb dL_law_1333 ?_
      refine xl_i (y := nI (i + 5)) (nI_add i 5) ?_
      refine va_sld hx hb hX hbl hbA hS (x_si (k := 5) (by decide) hi hL) dL_law_1334 ?_
      refine xl_i (y := xs (i + 5)) (congrArg xs (x_sc (k := 5) (by decide) hi hL)) ?_
      refine xc_ViT (wr := [(h0, .inr (8, [.ref qh, .ref qk, .ref qd, .int b0, .ref qa, .ref qm, .ref qs, .ref qp, .ref ql, .ref qt, .ref qz, .ref qf])), (qz, .inl (cS, 4, .inr (.inr (.inr (.inr (xSh s0 s1 s2 s3)))))), (s0, .inr (4, [.int bt0, .int (nI (sz0)), .ref sn0])), (s1, .inr (4, [.int bt1, .int (nI (sz1)), .ref sn1])), (s2, .inr (4, [.int bt2, .int (nI (sz2)), .ref sn2])), (s3, .inr (4, [.int bt3, .int (nI (sz3)), .ref sn3])), (sn0, .inl (cJ, 40, .inr (.inl nu0))), (sn1, .inl (cJ, 40, .inr (.inl nu1))), (sn2, .inl (cJ, 40, .inr (.inl nu2))), (sn3, .inl (cJ, 40, .inr (.inl nv_144))), (qf, .inl (cI, 7, .inl f2_145))]) hF (c_X9_copy_23 l D cI cJ cZ cS ta sa sv H.size g0 m_ys m_yk m_yo m_yt b0 m_yfa m_yfe m_mL m_mS m_mM m_yro m_yhe m_ygr m_mF m_mC m_mY m_yta z m_mf m_mt m_mv m_mw m_ywa m_ybi m_ysi m_ynu m_ymo m_bi m_sq m_nb m_mv9 m_mq (xs (i + 2)) (xs (i + 4)) (xs (i + 5)) sz2 sz3 r_z2 hsz2 r_z3 hsz3 m_hsq) kv_L_170 ⟨rfl, rfl, Nat.le_of_ble_eq_true rfl, Nat.le_of_ble_eq_true rfl⟩ ⟨Nat.le_of_ble_eq_true rfl, Nat.le_of_ble_eq_true rfl⟩ hK hN hZ hP hD hS hA [0, 2, 3, 4, 5, 1] [6, 7, 8, 9, 10, 11, 12, 13, 14, 15, 16] rfl rfl rfl rfl (by decide) 0 rfl rfl rfl rfl hl.1 rfl (Nat.le_of_ble_eq_true rfl) dL_law_1335 (fun r_147 u_r_147 H locs hw_r_147 hP hD hS => ?_)
      obtain ⟨nb2_148, mv2_149, mq2_150⟩ := u_r_147
      try dsimp only at hw_r_147
      obtain ⟨hw_r_147, i_151, i_152⟩ := hw_r_147
      have hP : va_P D vwCl ([(h0, .inr (8, [.ref qh, .ref qk, .ref qd, .int b0, .ref qa, .ref qm, .ref qs, .ref qp, .ref ql, .ref qt, .ref qz, .ref qf])), (qz, .inl (cS, 4, .inr (.inr (.inr (.inr (xSh s0 s1 s2 s3)))))), (s0, .inr (4, [.int bt0, .int (nI (sz0)), .ref sn0])), (s1, .inr (4, [.int bt1, .int (nI (sz1)), .ref sn1])), (s2, .inr (4, [.int bt2, .int (nI (sz2)), .ref sn2])), (s3, .inr (4, [.int bt3, .int (nI (sz3)), .ref sn3])), (sn0, .inl (cJ, 40, .inr (.inl nu0))), (sn1, .inl (cJ, 40, .inr (.inl nu1))), (sn2, .inl (cJ, 40, .inr (.inl nu2))), (sn3, .inl (cJ, 40, .inr (.inl nv_144))), (qf, .inl (cI, 7, .inl f2_145)), (g0, .inr (9, [.ref m_ys, .ref m_yk, .ref m_yo, .ref m_yt, .int b0, .ref m_yfa, .ref m_yfe, .int m_mL, .int m_mS, .int m_mM, .ref m_yro, .ref m_yhe, .ref m_ygr, .int m_mF, .int m_mC, .int m_mY, .ref m_yta, .int (nI (z)), .int (nI (m_mf)), .int (nI (m_mt)), .int m_mv, .int m_mw, .ref m_ywa, .ref m_ybi, .ref m_ysi, .ref m_ynu, .ref m_ymo])), (m_ybi, .inl (cI, 4, .inl m_bi)), (m_ysi, .inl (cI, 4, .inl m_sq)), (m_ynu, .inl (cJ, 160, .inr (.inl nb2_148))), (m_ymo, .inl (cJ, 40, .inr (.inl mv2_149))), (m_yt, .inl (cI, 7, .inl mq2_150))] ++ tl) H := hP
      have hD : va_D A ([(h0, .inr (8, [.ref qh, .ref qk, .ref qd, .int b0, .ref qa, .ref qm, .ref qs, .ref qp, .ref ql, .ref qt, .ref qz, .ref qf])), (qz, .inl (cS, 4, .inr (.inr (.inr (.inr (xSh s0 s1 s2 s3)))))), (s0, .inr (4, [.int bt0, .int (nI (sz0)), .ref sn0])), (s1, .inr (4, [.int bt1, .int (nI (sz1)), .ref sn1])), (s2, .inr (4, [.int bt2, .int (nI (sz2)), .ref sn2])), (s3, .inr (4, [.int bt3, .int (nI (sz3)), .ref sn3])), (sn0, .inl (cJ, 40, .inr (.inl nu0))), (sn1, .inl (cJ, 40, .inr (.inl nu1))), (sn2, .inl (cJ, 40, .inr (.inl nu2))), (sn3, .inl (cJ, 40, .inr (.inl nv_144))), (qf, .inl (cI, 7, .inl f2_145)), (g0, .inr (9, [.ref m_ys, .ref m_yk, .ref m_yo, .ref m_yt, .int b0, .ref m_yfa, .ref m_yfe, .int m_mL, .int m_mS, .int m_mM, .ref m_yro, .ref m_yhe, .ref m_ygr, .int m_mF, .int m_mC, .int m_mY, .ref m_yta, .int (nI (z)), .int (nI (m_mf)), .int (nI (m_mt)), .int m_mv, .int m_mw, .ref m_ywa, .ref m_ybi, .ref m_ysi, .ref m_ynu, .ref m_ymo])), (m_ybi, .inl (cI, 4, .inl m_bi)), (m_ysi, .inl (cI, 4, .inl m_sq)), (m_ynu, .inl (cJ, 160, .inr (.inl nb2_148))), (m_ymo, .inl (cJ, 40, .inr (.inl mv2_149))), (m_yt, .inl (cI, 7, .inl mq2_150))] ++ tl) := hD
      subst hw_r_147
      refine lv_pop hx hb dL_law_1338 rfl ?_
      refine lv_goto (tgt := 1483) hx hb dL_law_1339 (by decide) ?_
      exact kkx _ _ _ nu0 nu1 nu2 nv_144 f2_145 mq2_150 nb2_148 mv2_149 (xt_P hP [0, 1, 2, 3, 4, 5, 6, 7, 8, 9, 10, 11, 16, 12, 13, 14, 15] rfl) (xt_D hD [0, 1, 2, 3, 4, 5, 6, 7, 8, 9, 10, 11, 16, 12, 13, 14, 15] (by decide +kernel) rfl) (fun j hj => (i_152 (0 + j) (by omega)).trans (r_n0 j hj)) (fun j hj => (i_152 (40 + j) (by omega)).trans (r_n1 j hj)) (fun j hj => (i_152 (80 + j) (by omega)).trans (r_n2 j hj)) (fun j hj => (i_151 j).trans ((sp_cneq r_b2 r_b3 r_n2 (by omega) (r_n3 j hj)).trans (i_146 j).symm)) hS hl
  · skip
    refine lv_aload_n hx hb dL_law_1279 rfl (lv_at hl 2 rfl) ?_
    rcases x_sh4 (xs (i + 3)) with oq3 | eq3 | eq3 | eq3 | eq3
    · skip
      refine lv_aload_n hx hb dL_law_1280 rfl (lv_at hl 3 rfl) ?_
      refine lv_iload_n hx hb dL_law_1281 rfl (lv_at hl 0 rfl) ?_
      refine lv_iconst (v := 1) hx hb dL_law_1282 (by decide) ?_
      refine lv_iadd hx hb dL_law_1283 ?_
      refine xl_i (y := nI (i + 1)) (nI_add i 1) ?_
      refine va_sld hx hb hX hbl hbA hS (x_si (k := 1) (by decide) hi hL) dL_law_1284 ?_
      refine xl_i (y := xs (i + 1)) (congrArg xs (x_sc (k := 1) (by decide) hi hL)) ?_
      refine xl_i (y := 3) eq1 ?_
      refine lv_aload_n hx hb dL_law_1285 rfl (lv_at hl 3 rfl) ?_
      refine lv_iload_n hx hb dL_law_1286 rfl (lv_at hl 0 rfl) ?_
      refine lv_iconst (v := 2) hx hb dL_law_1287 (by decide) ?_
      refine lv_iadd hx hb dL_law_1288 ?_
      refine xl_i (y := nI (i + 2)) (nI_add i 2) ?_
      refine va_sld hx hb hX hbl hbA hS (x_si (k := 2) (by decide) hi hL) dL_law_1289 ?_
      refine xl_i (y := xs (i + 2)) (congrArg xs (x_sc (k := 2) (by decide) hi hL)) ?_
      refine lv_aload_n hx hb dL_law_1290 rfl (lv_at hl 3 rfl) ?_
      refine lv_iload_n hx hb dL_law_1291 rfl (lv_at hl 0 rfl) ?_
      refine lv_iconst (v := 3) hx hb dL_law_1292 (by decide) ?_
      refine lv_iadd hx hb dL_law_1293 ?_
      refine xl_i (y := nI (i + 3)) (nI_add i 3) ?_
      refine va_sld hx hb hX hbl hbA hS (x_si (k := 3) (by decide) hi hL) dL_law_1294 ?_
      refine xl_i (y := xs (i + 3)) (congrArg xs (x_sc (k := 3) (by decide) hi hL)) ?_
      refine lv_aload_n hx hb dL_law_1295 rfl (lv_at hl 3 rfl) ?_
      refine lv_iload_n hx hb dL_law_1296 rfl (lv_at hl 0 rfl) ?_
      refine lv_iconst (v := 4) hx hb dL_law_1297 (by decide) ?_
      refine lv_iadd hx hb dL_law_1298 ?_
      refine xl_i (y := nI (i + 4)) (nI_add i 4) ?_
      refine va_sld hx hb hX hbl hbA hS (x_si (k := 4) (by decide) hi hL) dL_law_1299 ?_
      refine xl_i (y := xs (i + 4)) (congrArg xs (x_sc (k := 4) (by decide) hi hL)) ?_
      refine lv_aload_n hx hb dL_law_1300 rfl (lv_at hl 3 rfl) ?_
      refine lv_iload_n hx hb dL_law_1301 rfl (lv_at hl 0 rfl) ?_
      refine lv_iconst (v := 5) hx hb dL_law_1302 (by decide) ?_
      refine lv_iadd hx hb dL_law_1303 ?_
      refine xl_i (y := nI (i + 5)) (nI_add i 5) ?_
      refine va_sld hx hb hX hbl hbA hS (x_si (k := 5) (by decide) hi hL) dL_law_1304 ?_
      refine xl_i (y := xs (i + 5)) (congrArg xs (x_sc (k := 5) (by decide) hi hL)) ?_
      refine xc_ViT (wr := [(qz, .inl (cS, 4, .inr (.inr (.inr (.inr (xSh s0 s1 s2 s3)))))), (s0, .inr (4, [.int bt0, .int (nI (sz0)), .ref sn0])), (s1, .inr (4, [.int bt1, .int (nI (sz1)), .ref sn1])), (s2, .inr (4, [.int bt2, .int (nI (sz2)), .ref sn2])), (s3, .inr (4, [.int bt3, .int (nI (sz3)), .ref sn3])), (sn0, .inl (cJ, 40, .inr (.inl nu0))), (sn1, .inl (cJ, 40, .inr (.inl nu1))), (sn2, .inl (cJ, 40, .inr (.inl nu2))), (sn3, .inl (cJ, 40, .inr (.inl nu3))), (g0, .inr (9, [.ref m_ys, .ref m_yk, .ref m_yo, .ref m_yt, .int b0, .ref m_yfa, .ref m_yfe, .int m_mL, .int m_mS, .int m_mM, .ref m_yro, .ref m_yhe, .ref m_ygr, .int m_mF, .int m_mC, .int m_mY, .ref m_yta, .int (nI (z)), .int (nI (m_mf)), .int (nI (m_mt)), .int m_mv, .int m_mw, .ref m_ywa, .ref m_ybi, .ref m_ysi, .ref m_ynu, .ref m_ymo])), (m_yt, .inl (cI, 7, .inl m_mq)), (m_ybi, .inl (cI, 4, .inl m_bi)), (m_ysi, .inl (cI, 4, .inl m_sq)), (m_ynu, .inl (cJ, 160, .inr (.inl m_nb))), (m_ymo, .inl (cJ, 40, .inr (.inl m_mv9)))]) hF (c_X8_copy_3o l D cI cJ cZ cS ta sa sv H.size h0 qh qk qd b0 qa qm qs qp ql qt qz qf ff (xs (i + 2)) (xs (i + 3)) (xs (i + 4)) (xs (i + 5)) oq3) kv_L_166 ⟨rfl, rfl, Nat.le_of_ble_eq_true rfl, Nat.le_of_ble_eq_true rfl⟩ ⟨Nat.le_of_ble_eq_true rfl, Nat.le_of_ble_eq_true rfl⟩ hK hN hZ hP hD hS hA [0, 10] [1, 2, 3, 4, 5, 6, 7, 8, 9, 11, 12, 13, 14, 15, 16] rfl rfl rfl rfl (by decide) 0 rfl rfl rfl rfl hl.1 rfl (Nat.le_of_ble_eq_true rfl) dL_law_1305 (fun r_153 u_r_153 H locs hw_r_153 hP hD hS => ?_)
      obtain ⟨f2_154, rfl⟩ : ∃ z, z = u_r_153 := ⟨_, rfl⟩
      try dsimp only at hw_r_153
      have hP : va_P D vwCl ([(qz, .inl (cS, 4, .inr (.inr (.inr (.inr (xSh s0 s1 s2 s3)))))), (s0, .inr (4, [.int bt0, .int (nI (sz0)), .ref sn0])), (s1, .inr (4, [.int bt1, .int (nI (sz1)), .ref sn1])), (s2, .inr (4, [.int bt2, .int (nI (sz2)), .ref sn2])), (s3, .inr (4, [.int bt3, .int (nI (sz3)), .ref sn3])), (sn0, .inl (cJ, 40, .inr (.inl nu0))), (sn1, .inl (cJ, 40, .inr (.inl nu1))), (sn2, .inl (cJ, 40, .inr (.inl nu2))), (sn3, .inl (cJ, 40, .inr (.inl nu3))), (g0, .inr (9, [.ref m_ys, .ref m_yk, .ref m_yo, .ref m_yt, .int b0, .ref m_yfa, .ref m_yfe, .int m_mL, .int m_mS, .int m_mM, .ref m_yro, .ref m_yhe, .ref m_ygr, .int m_mF, .int m_mC, .int m_mY, .ref m_yta, .int (nI (z)), .int (nI (m_mf)), .int (nI (m_mt)), .int m_mv, .int m_mw, .ref m_ywa, .ref m_ybi, .ref m_ysi, .ref m_ynu, .ref m_ymo])), (m_yt, .inl (cI, 7, .inl m_mq)), (m_ybi, .inl (cI, 4, .inl m_bi)), (m_ysi, .inl (cI, 4, .inl m_sq)), (m_ynu, .inl (cJ, 160, .inr (.inl m_nb))), (m_ymo, .inl (cJ, 40, .inr (.inl m_mv9))), (h0, .inr (8, [.ref qh, .ref qk, .ref qd, .int b0, .ref qa, .ref qm, .ref qs, .ref qp, .ref ql, .ref qt, .ref qz, .ref qf])), (qf, .inl (cI, 7, .inl f2_154))] ++ tl) H := hP
      have hD : va_D A ([(qz, .inl (cS, 4, .inr (.inr (.inr (.inr (xSh s0 s1 s2 s3)))))), (s0, .inr (4, [.int bt0, .int (nI (sz0)), .ref sn0])), (s1, .inr (4, [.int bt1, .int (nI (sz1)), .ref sn1])), (s2, .inr (4, [.int bt2, .int (nI (sz2)), .ref sn2])), (s3, .inr (4, [.int bt3, .int (nI (sz3)), .ref sn3])), (sn0, .inl (cJ, 40, .inr (.inl nu0))), (sn1, .inl (cJ, 40, .inr (.inl nu1))), (sn2, .inl (cJ, 40, .inr (.inl nu2))), (sn3, .inl (cJ, 40, .inr (.inl nu3))), (g0, .inr (9, [.ref m_ys, .ref m_yk, .ref m_yo, .ref m_yt, .int b0, .ref m_yfa, .ref m_yfe, .int m_mL, .int m_mS, .int m_mM, .ref m_yro, .ref m_yhe, .ref m_ygr, .int m_mF, .int m_mC, .int m_mY, .ref m_yta, .int (nI (z)), .int (nI (m_mf)), .int (nI (m_mt)), .int m_mv, .int m_mw, .ref m_ywa, .ref m_ybi, .ref m_ysi, .ref m_ynu, .ref m_ymo])), (m_yt, .inl (cI, 7, .inl m_mq)), (m_ybi, .inl (cI, 4, .inl m_bi)), (m_ysi, .inl (cI, 4, .inl m_sq)), (m_ynu, .inl (cJ, 160, .inr (.inl m_nb))), (m_ymo, .inl (cJ, 40, .inr (.inl m_mv9))), (h0, .inr (8, [.ref qh, .ref qk, .ref qd, .int b0, .ref qa, .ref qm, .ref qs, .ref qp, .ref ql, .ref qt, .ref qz, .ref qf])), (qf, .inl (cI, 7, .inl f2_154))] ++ tl) := hD
      subst hw_r_153
      refine lv_pop hx hb dL_law_1308 rfl ?_
      refine lv_aload_n hx hb dL_law_1309 rfl (lv_at hl 1 rfl) ?_
      refine lv_aload_n hx hb dL_law_1310 rfl (lv_at hl 3 rfl) ?_
      refine lv_iload_n hx hb dL_law_1311 rfl (lv_at hl 0 rfl) ?_
      refine lv_iconst (v := 1) hx hb dL_law_1312 (by decide) ?_
      refine lv_iadd hx hb dL_law_1313 ?_
      refine xl_i (y := nI (i + 1)) (nI_add i 1) ?_
      refine va_sld hx hb hX hbl hbA hS (x_si (k := 1) (by decide) hi hL) dL_law_1314 ?_
      refine xl_i (y := xs (i + 1)) (congrArg xs (x_sc (k := 1) (by decide) hi hL)) ?_
      refine xl_i (y := 3) eq1 ?_
      refine lv_aload_n hx hb dL_law_1315 rfl (lv_at hl 3 rfl) ?_
      refine lv_iload_n hx hb dL_law_1316 rfl (lv_at hl 0 rfl) ?_
      refine lv_iconst (v := 2) hx hb dL_law_1317 (by decide) ?_
      refine lv_iadd hx hb dL_law_1318 ?_
      refine xl_i (y := nI (i + 2)) (nI_add i 2) ?_
      refine va_sld hx hb hX hbl hbA hS (x_si (k := 2) (by decide) hi hL) dL_law_1319 ?_
      refine xl_i (y := xs (i + 2)) (congrArg xs (x_sc (k := 2) (by decide) hi hL)) ?_
      refine lv_aload_n hx hb dL_law_1320 rfl (lv_at hl 3 rfl) ?_
      refine lv_iload_n hx hb dL_law_1321 rfl (lv_at hl 0 rfl) ?_
      refine lv_iconst (v := 3) hx hb dL_law_1322 (by decide) ?_
      refine lv_iadd hx hb dL_law_1323 ?_
      refine xl_i (y := nI (i + 3)) (nI_add i 3) ?_
      refine va_sld hx hb hX hbl hbA hS (x_si (k := 3) (by decide) hi hL) dL_law_1324 ?_
      refine xl_i (y := xs (i + 3)) (congrArg xs (x_sc (k := 3) (by decide) hi hL)) ?_
      refine lv_aload_n hx hb dL_law_1325 rfl (lv_at hl 3 rfl) ?_
      refine lv_iload_n hx hb dL_law_1326 rfl (lv_at hl 0 rfl) ?_
      refine lv_iconst (v := 4) hx hb dL_law_1327 (by decide) ?_
      refine lv_iadd hx hb dL_law_1328 ?_
      refine xl_i (y := nI (i + 4)) (nI_add i 4) ?_
      refine va_sld hx hb hX hbl hbA hS (x_si (k := 4) (by decide) hi hL) dL_law_1329 ?_
      refine xl_i (y := xs (i + 4)) (congrArg xs (x_sc (k := 4) (by decide) hi hL)) ?_
      refine lv_aload_n hx hb dL_law_1330 rfl (lv_at hl 3 rfl) ?_
      refine lv_iload_n hx hb dL_law_1331 rfl (lv_at hl 0 rfl) ?_
      refine lv_iconst (v := 5) hx hb dL_law_1332 (by decide) ?_
      refine lv_iadd hx hb dL_law_1333 ?_
      refine xl_i (y := nI (i + 5)) (nI_add i 5) ?_
      refine va_sld hx hb hX hbl hbA hS (x_si (k := 5) (by decide) hi hL) dL_law_1334 ?_
      refine xl_i (y := xs (i + 5)) (congrArg xs (x_sc (k := 5) (by decide) hi hL)) ?_
      refine xc_ViT (wr := [(qz, .inl (cS, 4, .inr (.inr (.inr (.inr (xSh s0 s1 s2 s3)))))), (s0, .inr (4, [.int bt0, .int (nI (sz0)), .ref sn0])), (s1, .inr (4, [.int bt1, .int (nI (sz1)), .ref sn1])), (s2, .inr (4, [.int bt2, .int (nI (sz2)), .ref sn2])), (s3, .inr (4, [.int bt3, .int (nI (sz3)), .ref sn3])), (sn0, .inl (cJ, 40, .inr (.inl nu0))), (sn1, .inl (cJ, 40, .inr (.inl nu1))), (sn2, .inl (cJ, 40, .inr (.inl nu2))), (sn3, .inl (cJ, 40, .inr (.inl nu3))), (m_ybi, .inl (cI, 4, .inl m_bi)), (m_ysi, .inl (cI, 4, .inl m_sq)), (m_ynu, .inl (cJ, 160, .inr (.inl m_nb))), (m_ymo, .inl (cJ, 40, .inr (.inl m_mv9))), (h0, .inr (8, [.ref qh, .ref qk, .ref qd, .int b0, .ref qa, .ref qm, .ref qs, .ref qp, .ref ql, .ref qt, .ref qz, .ref qf])), (qf, .inl (cI, 7, .inl f2_154))]) hF (c_X9_copy_3o l D cI cJ cZ cS ta sa sv H.size g0 m_ys m_yk m_yo m_yt b0 m_yfa m_yfe m_mL m_mS m_mM m_yro m_yhe m_ygr m_mF m_mC m_mY m_yta z m_mf m_mt m_mv m_mw m_ywa m_ybi m_ysi m_ynu m_ymo m_mq (xs (i + 2)) (xs (i + 3)) (xs (i + 4)) (xs (i + 5)) oq3) kv_L_170 ⟨rfl, rfl, Nat.le_of_ble_eq_true rfl, Nat.le_of_ble_eq_true rfl⟩ ⟨Nat.le_of_ble_eq_true rfl, Nat.le_of_ble_eq_true rfl⟩ hK hN hZ hP hD hS hA [9, 10] [0, 1, 2, 3, 4, 5, 6, 7, 8, 11, 12, 13, 14, 15, 16] rfl rfl rfl rfl (by decide) 0 rfl rfl rfl rfl hl.1 rfl (Nat.le_of_ble_eq_true rfl) dL_law_1335 (fun r_155 u_r_155 H locs hw_r_155 hP hD hS => ?_)
      obtain ⟨mq2_156, rfl⟩ : ∃ z, z = u_r_155 := ⟨_, rfl⟩
      try dsimp only at hw_r_155
      have hP : va_P D vwCl ([(qz, .inl (cS, 4, .inr (.inr (.inr (.inr (xSh s0 s1 s2 s3)))))), (s0, .inr (4, [.int bt0, .int (nI (sz0)), .ref sn0])), (s1, .inr (4, [.int bt1, .int (nI (sz1)), .ref sn1])), (s2, .inr (4, [.int bt2, .int (nI (sz2)), .ref sn2])), (s3, .inr (4, [.int bt3, .int (nI (sz3)), .ref sn3])), (sn0, .inl (cJ, 40, .inr (.inl nu0))), (sn1, .inl (cJ, 40, .inr (.inl nu1))), (sn2, .inl (cJ, 40, .inr (.inl nu2))), (sn3, .inl (cJ, 40, .inr (.inl nu3))), (m_ybi, .inl (cI, 4, .inl m_bi)), (m_ysi, .inl (cI, 4, .inl m_sq)), (m_ynu, .inl (cJ, 160, .inr (.inl m_nb))), (m_ymo, .inl (cJ, 40, .inr (.inl m_mv9))), (h0, .inr (8, [.ref qh, .ref qk, .ref qd, .int b0, .ref qa, .ref qm, .ref qs, .ref qp, .ref ql, .ref qt, .ref qz, .ref qf])), (qf, .inl (cI, 7, .inl f2_154)), (g0, .inr (9, [.ref m_ys, .ref m_yk, .ref m_yo, .ref m_yt, .int b0, .ref m_yfa, .ref m_yfe, .int m_mL, .int m_mS, .int m_mM, .ref m_yro, .ref m_yhe, .ref m_ygr, .int m_mF, .int m_mC, .int m_mY, .ref m_yta, .int (nI (z)), .int (nI (m_mf)), .int (nI (m_mt)), .int m_mv, .int m_mw, .ref m_ywa, .ref m_ybi, .ref m_ysi, .ref m_ynu, .ref m_ymo])), (m_yt, .inl (cI, 7, .inl mq2_156))] ++ tl) H := hP
      have hD : va_D A ([(qz, .inl (cS, 4, .inr (.inr (.inr (.inr (xSh s0 s1 s2 s3)))))), (s0, .inr (4, [.int bt0, .int (nI (sz0)), .ref sn0])), (s1, .inr (4, [.int bt1, .int (nI (sz1)), .ref sn1])), (s2, .inr (4, [.int bt2, .int (nI (sz2)), .ref sn2])), (s3, .inr (4, [.int bt3, .int (nI (sz3)), .ref sn3])), (sn0, .inl (cJ, 40, .inr (.inl nu0))), (sn1, .inl (cJ, 40, .inr (.inl nu1))), (sn2, .inl (cJ, 40, .inr (.inl nu2))), (sn3, .inl (cJ, 40, .inr (.inl nu3))), (m_ybi, .inl (cI, 4, .inl m_bi)), (m_ysi, .inl (cI, 4, .inl m_sq)), (m_ynu, .inl (cJ, 160, .inr (.inl m_nb))), (m_ymo, .inl (cJ, 40, .inr (.inl m_mv9))), (h0, .inr (8, [.ref qh, .ref qk, .ref qd, .int b0, .ref qa, .ref qm, .ref qs, .ref qp, .ref ql, .ref qt, .ref qz, .ref qf])), (qf, .inl (cI, 7, .inl f2_154)), (g0, .inr (9, [.ref m_ys, .ref m_yk, .ref m_yo, .ref m_yt, .int b0, .ref m_yfa, .ref m_yfe, .int m_mL, .int m_mS, .int m_mM, .ref m_yro, .ref m_yhe, .ref m_ygr, .int m_mF, .int m_mC, .int m_mY, .ref m_yta, .int (nI (z)), .int (nI (m_mf)), .int (nI (m_mt)), .int m_mv, .int m_mw, .ref m_ywa, .ref m_ybi, .ref m_ysi, .ref m_ynu, .ref m_ymo])), (m_yt, .inl (cI, 7, .inl mq2_156))] ++ tl) := hD
      subst hw_r_155
      refine lv_pop hx hb dL_law_1338 rfl ?_
      refine lv_goto (tgt := 1483) hx hb dL_law_1339 (by decide) ?_
      exact kkx _ _ _ nu0 nu1 nu2 nu3 f2_154 mq2_156 m_nb m_mv9 (xt_P hP [13, 0, 1, 2, 3, 4, 5, 6, 7, 8, 14, 15, 16, 9, 10, 11, 12] rfl) (xt_D hD [13, 0, 1, 2, 3, 4, 5, 6, 7, 8, 14, 15, 16, 9, 10, 11, 12] (by decide +kernel) rfl) r_n0 r_n1 r_n2 r_n3 hS hl
    · skip
      refine lv_aload_n hx hb dL_law_1280 rfl (lv_at hl 3 rfl) ?_
      refine lv_iload_n hx hb dL_law_1281 rfl (lv_at hl 0 rfl) ?_
      refine lv_iconst (v := 1) hx hb dL_law_1282 (by decide) ?_
      refine lv_iadd hx hb dL_law_1283 ?_
      refine xl_i (y := nI (i + 1)) (nI_add i 1) ?_
      refine va_sld hx hb hX hbl hbA hS (x_si (k := 1) (by decide) hi hL) dL_law_1284 ?_
      refine xl_i (y := xs (i + 1)) (congrArg xs (x_sc (k := 1) (by decide) hi hL)) ?_
      refine xl_i (y := 3) eq1 ?_
      refine lv_aload_n hx hb dL_law_1285 rfl (lv_at hl 3 rfl) ?_
      refine lv_iload_n hx hb dL_law_1286 rfl (lv_at hl 0 rfl) ?_
      refine lv_iconst (v := 2) hx hb dL_law_1287 (by decide) ?_
      refine lv_iadd hx hb dL_law_1288 ?_
      refine xl_i (y := nI (i + 2)) (nI_add i 2) ?_
      refine va_sld hx hb hX hbl hbA hS (x_si (k := 2) (by decide) hi hL) dL_law_1289 ?_
      refine xl_i (y := xs (i + 2)) (congrArg xs (x_sc (k := 2) (by decide) hi hL)) ?_
      refine lv_aload_n hx hb dL_law_1290 rfl (lv_at hl 3 rfl) ?_
      refine lv_iload_n hx hb dL_law_1291 rfl (lv_at hl 0 rfl) ?_
      refine lv_iconst (v := 3) hx hb dL_law_1292 (by decide) ?_
      refine lv_iadd hx hb dL_law_1293 ?_
      refine xl_i (y := nI (i + 3)) (nI_add i 3) ?_
      refine va_sld hx hb hX hbl hbA hS (x_si (k := 3) (by decide) hi hL) dL_law_1294 ?_
      refine xl_i (y := xs (i + 3)) (congrArg xs (x_sc (k := 3) (by decide) hi hL)) ?_
      refine xl_i (y := 0) eq3 ?_
      refine lv_aload_n hx hb dL_law_1295 rfl (lv_at hl 3 rfl) ?_
      refine lv_iload_n hx hb dL_law_1296 rfl (lv_at hl 0 rfl) ?_
      refine lv_iconst (v := 4) hx hb dL_law_1297 (by decide) ?_
      refine lv_iadd hx hb dL_law_1298 ?_
      refine xl_i (y := nI (i + 4)) (nI_add i 4) ?_
      refine va_sld hx hb hX hbl hbA hS (x_si (k := 4) (by decide) hi hL) dL_law_1299 ?_
      refine xl_i (y := xs (i + 4)) (congrArg xs (x_sc (k := 4) (by decide) hi hL)) ?_
      refine lv_aload_n hx hb dL_law_1300 rfl (lv_at hl 3 rfl) ?_
      refine lv_iload_n hx hb dL_law_1301 rfl (lv_at hl 0 rfl) ?_
      refine lv_iconst (v := 5) hx hb dL_law_1302 (by decide) ?_
      refine lv_iadd hx hb dL_law_1303 ?_
      refine xl_i (y := nI (i + 5)) (nI_add i 5) ?_
      refine va_sld hx hb hX hbl hbA hS (x_si (k := 5) (by decide) hi hL) dL_law_1304 ?_
      refine xl_i (y := xs (i + 5)) (congrArg xs (x_sc (k := 5) (by decide) hi hL)) ?_
      refine xc_ViT (wr := [(g0, .inr (9, [.ref m_ys, .ref m_yk, .ref m_yo, .ref m_yt, .int b0, .ref m_yfa, .ref m_yfe, .int m_mL, .int m_mS, .int m_mM, .ref m_yro, .ref m_yhe, .ref m_ygr, .int m_mF, .int m_mC, .int m_mY, .ref m_yta, .int (nI (z)), .int (nI (m_mf)), .int (nI (m_mt)), .int m_mv, .int m_mw, .ref m_ywa, .ref m_ybi, .ref m_ysi, .ref m_ynu, .ref m_ymo])), (m_yt, .inl (cI, 7, .inl m_mq)), (m_ybi, .inl (cI, 4, .inl m_bi)), (m_ysi, .inl (cI, 4, .inl m_sq)), (m_ynu, .inl (cJ, 160, .inr (.inl m_nb))), (m_ymo, .inl (cJ, 40, .inr (.inl m_mv9)))]) hF (c_X8_copy_30 l D cI cJ cZ cS ta sa sv H.size h0 qh qk qd b0 qa qm qs qp ql qt qz qf s0 s1 s2 s3 bt0 sz0 sn0 bt1 sz1 sn1 bt2 sz2 sn2 bt3 sz3 sn3 nu0 nu1 nu2 nu3 ff (xs (i + 2)) (xs (i + 4)) (xs (i + 5)) hsz0 hsz1 hsz2 hsz3) kv_L_166 ⟨rfl, rfl, Nat.le_of_ble_eq_true rfl, Nat.le_of_ble_eq_true rfl⟩ ⟨Nat.le_of_ble_eq_true rfl, Nat.le_of_ble_eq_true rfl⟩ hK hN hZ hP hD hS hA [0, 1, 2, 3, 4, 5, 6, 7, 8, 9, 10] [11, 12, 13, 14, 15, 16] rfl rfl rfl rfl (by decide) 0 rfl rfl rfl rfl hl.1 rfl (Nat.le_of_ble_eq_true rfl) dL_law_1305 (fun r_157 u_r_157 H locs hw_r_157 hP hD hS => ?_)
      obtain ⟨nv_158, f2_159⟩ := u_r_157
      try dsimp only at hw_r_157
      obtain ⟨hw_r_157, i_160⟩ := hw_r_157
      have hP : va_P D vwCl ([(g0, .inr (9, [.ref m_ys, .ref m_yk, .ref m_yo, .ref m_yt, .int b0, .ref m_yfa, .ref m_yfe, .int m_mL, .int m_mS, .int m_mM, .ref m_yro, .ref m_yhe, .ref m_ygr, .int m_mF, .int m_mC, .int m_mY, .ref m_yta, .int (nI (z)), .int (nI (m_mf)), .int (nI (m_mt)), .int m_mv, .int m_mw, .ref m_ywa, .ref m_ybi, .ref m_ysi, .ref m_ynu, .ref m_ymo])), (m_yt, .inl (cI, 7, .inl m_mq)), (m_ybi, .inl (cI, 4, .inl m_bi)), (m_ysi, .inl (cI, 4, .inl m_sq)), (m_ynu, .inl (cJ, 160, .inr (.inl m_nb))), (m_ymo, .inl (cJ, 40, .inr (.inl m_mv9))), (h0, .inr (8, [.ref qh, .ref qk, .ref qd, .int b0, .ref qa, .ref qm, .ref qs, .ref qp, .ref ql, .ref qt, .ref qz, .ref qf])), (qz, .inl (cS, 4, .inr (.inr (.inr (.inr (xSh s0 s1 s2 s3)))))), (s0, .inr (4, [.int bt0, .int (nI (sz0)), .ref sn0])), (s1, .inr (4, [.int bt1, .int (nI (sz1)), .ref sn1])), (s2, .inr (4, [.int bt2, .int (nI (sz2)), .ref sn2])), (s3, .inr (4, [.int bt3, .int (nI (sz3)), .ref sn3])), (sn0, .inl (cJ, 40, .inr (.inl nv_158))), (sn1, .inl (cJ, 40, .inr (.inl nu1))), (sn2, .inl (cJ, 40, .inr (.inl nu2))), (sn3, .inl (cJ, 40, .inr (.inl nu3))), (qf, .inl (cI, 7, .inl f2_159))] ++ tl) H := hP
      have hD : va_D A ([(g0, .inr (9, [.ref m_ys, .ref m_yk, .ref m_yo, .ref m_yt, .int b0, .ref m_yfa, .ref m_yfe, .int m_mL, .int m_mS, .int m_mM, .ref m_yro, .ref m_yhe, .ref m_ygr, .int m_mF, .int m_mC, .int m_mY, .ref m_yta, .int (nI (z)), .int (nI (m_mf)), .int (nI (m_mt)), .int m_mv, .int m_mw, .ref m_ywa, .ref m_ybi, .ref m_ysi, .ref m_ynu, .ref m_ymo])), (m_yt, .inl (cI, 7, .inl m_mq)), (m_ybi, .inl (cI, 4, .inl m_bi)), (m_ysi, .inl (cI, 4, .inl m_sq)), (m_ynu, .inl (cJ, 160, .inr (.inl m_nb))), (m_ymo, .inl (cJ, 40, .inr (.inl m_mv9))), (h0, .inr (8, [.ref qh, .ref qk, .ref qd, .int b0, .ref qa, .ref qm, .ref qs, .ref qp, .ref ql, .ref qt, .ref qz, .ref qf])), (qz, .inl (cS, 4, .inr (.inr (.inr (.inr (xSh s0 s1 s2 s3)))))), (s0, .inr (4, [.int bt0, .int (nI (sz0)), .ref sn0])), (s1, .inr (4, [.int bt1, .int (nI (sz1)), .ref sn1])), (s2, .inr (4, [.int bt2, .int (nI (sz2)), .ref sn2])), (s3, .inr (4, [.int bt3, .int (nI (sz3)), .ref sn3])), (sn0, .inl (cJ, 40, .inr (.inl nv_158))), (sn1, .inl (cJ, 40, .inr (.inl nu1))), (sn2, .inl (cJ, 40, .inr (.inl nu2))), (sn3, .inl (cJ, 40, .inr (.inl nu3))), (qf, .inl (cI, 7, .inl f2_159))] ++ tl) := hD
      subst hw_r_157
      refine lv_pop hx hb dL_law_1308 rfl ?_
      refine lv_aload_n hx hb dL_law_1309 rfl (lv_at hl 1 rfl) ?_
      refine lv_aload_n hx hb dL_law_1310 rfl (lv_at hl 3 rfl) ?_
      refine lv_iload_n hx hb dL_law_1311 rfl (lv_at hl 0 rfl) ?_
      refine lv_iconst (v := 1) hx hb dL_law_1312 (by decide) ?_
      refine lv_iadd hx hb dL_law_1313 ?_
      refine xl_i (y := nI (i + 1)) (nI_add i 1) ?_
      refine va_sld hx hb hX hbl hbA hS (x_si (k := 1) (by decide) hi hL) dL_law_1314 ?_
      refine xl_i (y := xs (i + 1)) (congrArg xs (x_sc (k := 1) (by decide) hi hL)) ?_
      refine xl_i (y := 3) eq1 ?_
      refine lv_aload_n hx hb dL_law_1315 rfl (lv_at hl 3 rfl) ?_
      refine lv_iload_n hx hb dL_law_1316 rfl (lv_at hl 0 rfl) ?_
      refine lv_iconst (v := 2) hx hb dL_law_1317 (by decide) ?_
      refine lv_iadd hx hb dL_law_1318 ?_
      refine xl_i (y := nI (i + 2)) (nI_add i 2) ?_
      refine va_sld hx hb hX hbl hbA hS (x_si (k := 2) (by decide) hi hL) dL_law_1319 ?_
      refine xl_i (y := xs (i + 2)) (congrArg xs (x_sc (k := 2) (by decide) hi hL)) ?_
      refine lv_aload_n hx hb dL_law_1320 rfl (lv_at hl 3 rfl) ?_
      refine lv_iload_n hx hb dL_law_1321 rfl (lv_at hl 0 rfl) ?_
      refine lv_iconst (v := 3) hx hb dL_law_1322 (by decide) ?_
      refine lv_iadd hx hb dL_law_1323 ?_
      refine xl_i (y := nI (i + 3)) (nI_add i 3) ?_
      refine va_sld hx hb hX hbl hbA hS (x_si (k := 3) (by decide) hi hL) dL_law_1324 ?_
      refine xl_i (y := xs (i + 3)) (congrArg xs (x_sc (k := 3) (by decide) hi hL)) ?_
      refine xl_i (y := 0) eq3 ?_
      refine lv_aload_n hx hb dL_law_1325 rfl (lv_at hl 3 rfl) ?_
      refine lv_iload_n hx hb dL_law_1326 rfl (lv_at hl 0 rfl) ?_
      refine lv_iconst (v := 4) hx hb dL_law_1327 (by decide) ?_
      refine lv_iadd hx hb dL_law_1328 ?_
      refine xl_i (y := nI (i + 4)) (nI_add i 4) ?_
      refine va_sld hx hb hX hbl hbA hS (x_si (k := 4) (by decide) hi hL) dL_law_1329 ?_
      refine xl_i (y := xs (i + 4)) (congrArg xs (x_sc (k := 4) (by decide) hi hL)) ?_
      refine lv_aload_n hx hb dL_law_1330 rfl (lv_at hl 3 rfl) ?_
      refine lv_iload_n hx hb dL_law_1331 rfl (lv_at hl 0 rfl) ?_
      refine lv_iconst (v := 5) hx hb dL_law_1332 (by decide) ?_
      refine lv_iadd hx hb dL_law_1333 ?_
      refine xl_i (y := nI (i + 5)) (nI_add i 5) ?_
      refine va_sld hx hb hX hbl hbA hS (x_si (k := 5) (by decide) hi hL) dL_law_1334 ?_
      refine xl_i (y := xs (i + 5)) (congrArg xs (x_sc (k := 5) (by decide) hi hL)) ?_
      refine xc_ViT (wr := [(h0, .inr (8, [.ref qh, .ref qk, .ref qd, .int b0, .ref qa, .ref qm, .ref qs, .ref qp, .ref ql, .ref qt, .ref qz, .ref qf])), (qz, .inl (cS, 4, .inr (.inr (.inr (.inr (xSh s0 s1 s2 s3)))))), (s0, .inr (4, [.int bt0, .int (nI (sz0)), .ref sn0])), (s1, .inr (4, [.int bt1, .int (nI (sz1)), .ref sn1])), (s2, .inr (4, [.int bt2, .int (nI (sz2)), .ref sn2])), (s3, .inr (4, [.int bt3, .int (nI (sz3)), .ref sn3])), (sn0, .inl (cJ, 40, .inr (.inl nv_158))), (sn1, .inl (cJ, 40, .inr (.inl nu1))), (sn2, .inl (cJ, 40, .inr (.inl nu2))), (sn3, .inl (cJ, 40, .inr (.inl nu3))), (qf, .inl (cI, 7, .inl f2_159))]) hF (c_X9_copy_30 l D cI cJ cZ cS ta sa sv H.size g0 m_ys m_yk m_yo m_yt b0 m_yfa m_yfe m_mL m_mS m_mM m_yro m_yhe m_ygr m_mF m_mC m_mY m_yta z m_mf m_mt m_mv m_mw m_ywa m_ybi m_ysi m_ynu m_ymo m_bi m_sq m_nb m_mv9 m_mq (xs (i + 2)) (xs (i + 4)) (xs (i + 5)) sz3 sz0 r_z3 hsz3 r_z0 hsz0 m_hsq) kv_L_170 ⟨rfl, rfl, Nat.le_of_ble_eq_true rfl, Nat.le_of_ble_eq_true rfl⟩ ⟨Nat.le_of_ble_eq_true rfl, Nat.le_of_ble_eq_true rfl⟩ hK hN hZ hP hD hS hA [0, 2, 3, 4, 5, 1] [6, 7, 8, 9, 10, 11, 12, 13, 14, 15, 16] rfl rfl rfl rfl (by decide) 0 rfl rfl rfl rfl hl.1 rfl (Nat.le_of_ble_eq_true rfl) dL_law_1335 (fun r_161 u_r_161 H locs hw_r_161 hP hD hS => ?_)
      obtain ⟨nb2_162, mv2_163, mq2_164⟩ := u_r_161
      try dsimp only at hw_r_161
      obtain ⟨hw_r_161, i_165, i_166⟩ := hw_r_161
      have hP : va_P D vwCl ([(h0, .inr (8, [.ref qh, .ref qk, .ref qd, .int b0, .ref qa, .ref qm, .ref qs, .ref qp, .ref ql, .ref qt, .ref qz, .ref qf])), (qz, .inl (cS, 4, .inr (.inr (.inr (.inr (xSh s0 s1 s2 s3)))))), (s0, .inr (4, [.int bt0, .int (nI (sz0)), .ref sn0])), (s1, .inr (4, [.int bt1, .int (nI (sz1)), .ref sn1])), (s2, .inr (4, [.int bt2, .int (nI (sz2)), .ref sn2])), (s3, .inr (4, [.int bt3, .int (nI (sz3)), .ref sn3])), (sn0, .inl (cJ, 40, .inr (.inl nv_158))), (sn1, .inl (cJ, 40, .inr (.inl nu1))), (sn2, .inl (cJ, 40, .inr (.inl nu2))), (sn3, .inl (cJ, 40, .inr (.inl nu3))), (qf, .inl (cI, 7, .inl f2_159)), (g0, .inr (9, [.ref m_ys, .ref m_yk, .ref m_yo, .ref m_yt, .int b0, .ref m_yfa, .ref m_yfe, .int m_mL, .int m_mS, .int m_mM, .ref m_yro, .ref m_yhe, .ref m_ygr, .int m_mF, .int m_mC, .int m_mY, .ref m_yta, .int (nI (z)), .int (nI (m_mf)), .int (nI (m_mt)), .int m_mv, .int m_mw, .ref m_ywa, .ref m_ybi, .ref m_ysi, .ref m_ynu, .ref m_ymo])), (m_ybi, .inl (cI, 4, .inl m_bi)), (m_ysi, .inl (cI, 4, .inl m_sq)), (m_ynu, .inl (cJ, 160, .inr (.inl nb2_162))), (m_ymo, .inl (cJ, 40, .inr (.inl mv2_163))), (m_yt, .inl (cI, 7, .inl mq2_164))] ++ tl) H := hP
      have hD : va_D A ([(h0, .inr (8, [.ref qh, .ref qk, .ref qd, .int b0, .ref qa, .ref qm, .ref qs, .ref qp, .ref ql, .ref qt, .ref qz, .ref qf])), (qz, .inl (cS, 4, .inr (.inr (.inr (.inr (xSh s0 s1 s2 s3)))))), (s0, .inr (4, [.int bt0, .int (nI (sz0)), .ref sn0])), (s1, .inr (4, [.int bt1, .int (nI (sz1)), .ref sn1])), (s2, .inr (4, [.int bt2, .int (nI (sz2)), .ref sn2])), (s3, .inr (4, [.int bt3, .int (nI (sz3)), .ref sn3])), (sn0, .inl (cJ, 40, .inr (.inl nv_158))), (sn1, .inl (cJ, 40, .inr (.inl nu1))), (sn2, .inl (cJ, 40, .inr (.inl nu2))), (sn3, .inl (cJ, 40, .inr (.inl nu3))), (qf, .inl (cI, 7, .inl f2_159)), (g0, .inr (9, [.ref m_ys, .ref m_yk, .ref m_yo, .ref m_yt, .int b0, .ref m_yfa, .ref m_yfe, .int m_mL, .int m_mS, .int m_mM, .ref m_yro, .ref m_yhe, .ref m_ygr, .int m_mF, .int m_mC, .int m_mY, .ref m_yta, .int (nI (z)), .int (nI (m_mf)), .int (nI (m_mt)), .int m_mv, .int m_mw, .ref m_ywa, .ref m_ybi, .ref m_ysi, .ref m_ynu, .ref m_ymo])), (m_ybi, .inl (cI, 4, .inl m_bi)), (m_ysi, .inl (cI, 4, .inl m_sq)), (m_ynu, .inl (cJ, 160, .inr (.inl nb2_162))), (m_ymo, .inl (cJ, 40, .inr (.inl mv2_163))), (m_yt, .inl (cI, 7, .inl mq2_164))] ++ tl) := hD
      subst hw_r_161
      refine lv_pop hx hb dL_law_1338 rfl ?_
      refine lv_goto (tgt := 1483) hx hb dL_law_1339 (by decide) ?_
      exact kkx _ _ _ nv_158 nu1 nu2 nu3 f2_159 mq2_164 nb2_162 mv2_163 (xt_P hP [0, 1, 2, 3, 4, 5, 6, 7, 8, 9, 10, 11, 16, 12, 13, 14, 15] rfl) (xt_D hD [0, 1, 2, 3, 4, 5, 6, 7, 8, 9, 10, 11, 16, 12, 13, 14, 15] (by decide +kernel) rfl) (fun j hj => (i_165 j).trans ((sp_cneq r_b3 r_b0 r_n3 (by omega) (r_n0 j hj)).trans (i_160 j).symm)) (fun j hj => (i_166 (40 + j) (by omega)).trans (r_n1 j hj)) (fun j hj => (i_166 (80 + j) (by omega)).trans (r_n2 j hj)) (fun j hj => (i_166 (120 + j) (by omega)).trans (r_n3 j hj)) hS hl
    · skip
      refine lv_aload_n hx hb dL_law_1280 rfl (lv_at hl 3 rfl) ?_
      refine lv_iload_n hx hb dL_law_1281 rfl (lv_at hl 0 rfl) ?_
      refine lv_iconst (v := 1) hx hb dL_law_1282 (by decide) ?_
      refine lv_iadd hx hb dL_law_1283 ?_
      refine xl_i (y := nI (i + 1)) (nI_add i 1) ?_
      refine va_sld hx hb hX hbl hbA hS (x_si (k := 1) (by decide) hi hL) dL_law_1284 ?_
      refine xl_i (y := xs (i + 1)) (congrArg xs (x_sc (k := 1) (by decide) hi hL)) ?_
      refine xl_i (y := 3) eq1 ?_
      refine lv_aload_n hx hb dL_law_1285 rfl (lv_at hl 3 rfl) ?_
      refine lv_iload_n hx hb dL_law_1286 rfl (lv_at hl 0 rfl) ?_
      refine lv_iconst (v := 2) hx hb dL_law_1287 (by decide) ?_
      refine lv_iadd hx hb dL_law_1288 ?_
      refine xl_i (y := nI (i + 2)) (nI_add i 2) ?_
      refine va_sld hx hb hX hbl hbA hS (x_si (k := 2) (by decide) hi hL) dL_law_1289 ?_
      refine xl_i (y := xs (i + 2)) (congrArg xs (x_sc (k := 2) (by decide) hi hL)) ?_
      refine lv_aload_n hx hb dL_law_1290 rfl (lv_at hl 3 rfl) ?_
      refine lv_iload_n hx hb dL_law_1291 rfl (lv_at hl 0 rfl) ?_
      refine lv_iconst (v := 3) hx hb dL_law_1292 (by decide) ?_
      refine lv_iadd hx hb dL_law_1293 ?_
      refine xl_i (y := nI (i + 3)) (nI_add i 3) ?_
      refine va_sld hx hb hX hbl hbA hS (x_si (k := 3) (by decide) hi hL) dL_law_1294 ?_
      refine xl_i (y := xs (i + 3)) (congrArg xs (x_sc (k := 3) (by decide) hi hL)) ?_
      refine xl_i (y := 1) eq3 ?_
      refine lv_aload_n hx hb dL_law_1295 rfl (lv_at hl 3 rfl) ?_
      refine lv_iload_n hx hb dL_law_1296 rfl (lv_at hl 0 rfl) ?_
      refine lv_iconst (v := 4) hx hb dL_law_1297 (by decide) ?_
      refine lv_iadd hx hb dL_law_1298 ?_
      refine xl_i (y := nI (i + 4)) (nI_add i 4) ?_
      refine va_sld hx hb hX hbl hbA hS (x_si (k := 4) (by decide) hi hL) dL_law_1299 ?_
      refine xl_i (y := xs (i + 4)) (congrArg xs (x_sc (k := 4) (by decide) hi hL)) ?_
      refine lv_aload_n hx hb dL_law_1300 rfl (lv_at hl 3 rfl) ?_
      refine lv_iload_n hx hb dL_law_1301 rfl (lv_at hl 0 rfl) ?_
      refine lv_iconst (v := 5) hx hb dL_law_1302 (by decide) ?_
      refine lv_iadd hx hb dL_law_1303 ?_
      refine xl_i (y := nI (i + 5)) (nI_add i 5) ?_
      refine va_sld hx hb hX hbl hbA hS (x_si (k := 5) (by decide) hi hL) dL_law_1304 ?_
      refine xl_i (y := xs (i + 5)) (congrArg xs (x_sc (k := 5) (by decide) hi hL)) ?_
      refine xc_ViT (wr := [(g0, .inr (9, [.ref m_ys, .ref m_yk, .ref m_yo, .ref m_yt, .int b0, .ref m_yfa, .ref m_yfe, .int m_mL, .int m_mS, .int m_mM, .ref m_yro, .ref m_yhe, .ref m_ygr, .int m_mF, .int m_mC, .int m_mY, .ref m_yta, .int (nI (z)), .int (nI (m_mf)), .int (nI (m_mt)), .int m_mv, .int m_mw, .ref m_ywa, .ref m_ybi, .ref m_ysi, .ref m_ynu, .ref m_ymo])), (m_yt, .inl (cI, 7, .inl m_mq)), (m_ybi, .inl (cI, 4, .inl m_bi)), (m_ysi, .inl (cI, 4, .inl m_sq)), (m_ynu, .inl (cJ, 160, .inr (.inl m_nb))), (m_ymo, .inl (cJ, 40, .inr (.inl m_mv9)))]) hF (c_X8_copy_31 l D cI cJ cZ cS ta sa sv H.size h0 qh qk qd b0 qa qm qs qp ql qt qz qf s0 s1 s2 s3 bt0 sz0 sn0 bt1 sz1 sn1 bt2 sz2 sn2 bt3 sz3 sn3 nu0 nu1 nu2 nu3 ff (xs (i + 2)) (xs (i + 4)) (xs (i + 5)) hsz0 hsz1 hsz2 hsz3) kv_L_166 ⟨rfl, rfl, Nat.le_of_ble_eq_true rfl, Nat.le_of_ble_eq_true rfl⟩ ⟨Nat.le_of_ble_eq_true rfl, Nat.le_of_ble_eq_true rfl⟩ hK hN hZ hP hD hS hA [0, 1, 2, 3, 4, 5, 6, 7, 8, 9, 10] [11, 12, 13, 14, 15, 16] rfl rfl rfl rfl (by decide) 0 rfl rfl rfl rfl hl.1 rfl (Nat.le_of_ble_eq_true rfl) dL_law_1305 (fun r_167 u_r_167 H locs hw_r_167 hP hD hS => ?_)
      obtain ⟨nv_168, f2_169⟩ := u_r_167
      try dsimp only at hw_r_167
      obtain ⟨hw_r_167, i_170⟩ := hw_r_167
      have hP : va_P D vwCl ([(g0, .inr (9, [.ref m_ys, .ref m_yk, .ref m_yo, .ref m_yt, .int b0, .ref m_yfa, .ref m_yfe, .int m_mL, .int m_mS, .int m_mM, .ref m_yro, .ref m_yhe, .ref m_ygr, .int m_mF, .int m_mC, .int m_mY, .ref m_yta, .int (nI (z)), .int (nI (m_mf)), .int (nI (m_mt)), .int m_mv, .int m_mw, .ref m_ywa, .ref m_ybi, .ref m_ysi, .ref m_ynu, .ref m_ymo])), (m_yt, .inl (cI, 7, .inl m_mq)), (m_ybi, .inl (cI, 4, .inl m_bi)), (m_ysi, .inl (cI, 4, .inl m_sq)), (m_ynu, .inl (cJ, 160, .inr (.inl m_nb))), (m_ymo, .inl (cJ, 40, .inr (.inl m_mv9))), (h0, .inr (8, [.ref qh, .ref qk, .ref qd, .int b0, .ref qa, .ref qm, .ref qs, .ref qp, .ref ql, .ref qt, .ref qz, .ref qf])), (qz, .inl (cS, 4, .inr (.inr (.inr (.inr (xSh s0 s1 s2 s3)))))), (s0, .inr (4, [.int bt0, .int (nI (sz0)), .ref sn0])), (s1, .inr (4, [.int bt1, .int (nI (sz1)), .ref sn1])), (s2, .inr (4, [.int bt2, .int (nI (sz2)), .ref sn2])), (s3, .inr (4, [.int bt3, .int (nI (sz3)), .ref sn3])), (sn0, .inl (cJ, 40, .inr (.inl nu0))), (sn1, .inl (cJ, 40, .inr (.inl nv_168))), (sn2, .inl (cJ, 40, .inr (.inl nu2))), (sn3, .inl (cJ, 40, .inr (.inl nu3))), (qf, .inl (cI, 7, .inl f2_169))] ++ tl) H := hP
      have hD : va_D A ([(g0, .inr (9, [.ref m_ys, .ref m_yk, .ref m_yo, .ref m_yt, .int b0, .ref m_yfa, .ref m_yfe, .int m_mL, .int m_mS, .int m_mM, .ref m_yro, .ref m_yhe, .ref m_ygr, .int m_mF, .int m_mC, .int m_mY, .ref m_yta, .int (nI (z)), .int (nI (m_mf)), .int (nI (m_mt)), .int m_mv, .int m_mw, .ref m_ywa, .ref m_ybi, .ref m_ysi, .ref m_ynu, .ref m_ymo])), (m_yt, .inl (cI, 7, .inl m_mq)), (m_ybi, .inl (cI, 4, .inl m_bi)), (m_ysi, .inl (cI, 4, .inl m_sq)), (m_ynu, .inl (cJ, 160, .inr (.inl m_nb))), (m_ymo, .inl (cJ, 40, .inr (.inl m_mv9))), (h0, .inr (8, [.ref qh, .ref qk, .ref qd, .int b0, .ref qa, .ref qm, .ref qs, .ref qp, .ref ql, .ref qt, .ref qz, .ref qf])), (qz, .inl (cS, 4, .inr (.inr (.inr (.inr (xSh s0 s1 s2 s3)))))), (s0, .inr (4, [.int bt0, .int (nI (sz0)), .ref sn0])), (s1, .inr (4, [.int bt1, .int (nI (sz1)), .ref sn1])), (s2, .inr (4, [.int bt2, .int (nI (sz2)), .ref sn2])), (s3, .inr (4, [.int bt3, .int (nI (sz3)), .ref sn3])), (sn0, .inl (cJ, 40, .inr (.inl nu0))), (sn1, .inl (cJ, 40, .inr (.inl nv_168))), (sn2, .inl (cJ, 40, .inr (.inl nu2))), (sn3, .inl (cJ, 40, .inr (.inl nu3))), (qf, .inl (cI, 7, .inl f2_169))] ++ tl) := hD
      subst hw_r_167
      refine lv_pop hx hb dL_law_1308 rfl ?_
      refine lv_aload_n hx hb dL_law_1309 rfl (lv_at hl 1 rfl) ?_
      refine lv_aload_n hx hb dL_law_1310 rfl (lv_at hl 3 rfl) ?_
      refine lv_iload_n hx hb dL_law_1311 rfl (lv_at hl 0 rfl) ?_
      refine lv_iconst (v := 1) hx hb dL_law_1312 (by decide) ?_
      refine lv_iadd hx hb dL_law_1313 ?_
      refine xl_i (y := nI (i + 1)) (nI_add i 1) ?_
      refine va_sld hx hb hX hbl hbA hS (x_si (k := 1) (by decide) hi hL) dL_law_1314 ?_
      refine xl_i (y := xs (i + 1)) (congrArg xs (x_sc (k := 1) (by decide) hi hL)) ?_
      refine xl_i (y := 3) eq1 ?_
      refine lv_aload_n hx hb dL_law_1315 rfl (lv_at hl 3 rfl) ?_
      refine lv_iload_n hx hb dL_law_1316 rfl (lv_at hl 0 rfl) ?_
      refine lv_iconst (v := 2) hx hb dL_law_1317 (by decide) ?_
      refine lv_iadd hx hb dL_law_1318 ?_
      refine xl_i (y := nI (i + 2)) (nI_add i 2) ?_
      refine va_sld hx hb hX hbl hbA hS (x_si (k := 2) (by decide) hi hL) dL_law_1319 ?_
      refine xl_i (y := xs (i + 2)) (congrArg xs (x_sc (k := 2) (by decide) hi hL)) ?_
      refine lv_aload_n hx hb dL_law_1320 rfl (lv_at hl 3 rfl) ?_
      refine lv_iload_n hx hb dL_law_1321 rfl (lv_at hl 0 rfl) ?_
      refine lv_iconst (v := 3) hx hb dL_law_1322 (by decide) ?_
      refine lv_iadd hx hb dL_law_1323 ?_
      refine xl_i (y := nI (i + 3)) (nI_add i 3) ?_
      refine va_sld hx hb hX hbl hbA hS (x_si (k := 3) (by decide) hi hL) dL_law_1324 ?_
      refine xl_i (y := xs (i + 3)) (congrArg xs (x_sc (k := 3) (by decide) hi hL)) ?_
      refine xl_i (y := 1) eq3 ?_
      refine lv_aload_n hx hb dL_law_1325 rfl (lv_at hl 3 rfl) ?_
      refine lv_iload_n hx hb dL_law_1326 rfl (lv_at hl 0 rfl) ?_
      refine lv_iconst (v := 4) hx hb dL_law_1327 (by decide) ?_
      refine lv_iadd hx hb dL_law_1328 ?_
      refine xl_i (y := nI (i + 4)) (nI_add i 4) ?_
      refine va_sld hx hb hX hbl hbA hS (x_si (k := 4) (by decide) hi hL) dL_law_1329 ?_
      refine xl_i (y := xs (i + 4)) (congrArg xs (x_sc (k := 4) (by decide) hi hL)) ?_
      refine lv_aload_n hx hb dL_law_1330 rfl (lv_at hl 3 rfl) ?_
      refine lv_iload_n hx hb dL_law_1331 rfl (lv_at hl 0 rfl) ?_
      refine lv_iconst (v := 5) hx hb dL_law_1332 (by decide) ?_
      refine lv_iadd hx hb dL_law_1333 ?_
      refine xl_i (y := nI (i + 5)) (nI_add i 5) ?_
      refine va_sld hx hb hX hbl hbA hS (x_si (k := 5) (by decide) hi hL) dL_law_1334 ?_
      refine xl_i (y := xs (i + 5)) (congrArg xs (x_sc (k := 5) (by decide) hi hL)) ?_
      refine xc_ViT (wr := [(h0, .inr (8, [.ref qh, .ref qk, .ref qd, .int b0, .ref qa, .ref qm, .ref qs, .ref qp, .ref ql, .ref qt, .ref qz, .ref qf])), (qz, .inl (cS, 4, .inr (.inr (.inr (.inr (xSh s0 s1 s2 s3)))))), (s0, .inr (4, [.int bt0, .int (nI (sz0)), .ref sn0])), (s1, .inr (4, [.int bt1, .int (nI (sz1)), .ref sn1])), (s2, .inr (4, [.int bt2, .int (nI (sz2)), .ref sn2])), (s3, .inr (4, [.int bt3, .int (nI (sz3)), .ref sn3])), (sn0, .inl (cJ, 40, .inr (.inl nu0))), (sn1, .inl (cJ, 40, .inr (.inl nv_168))), (sn2, .inl (cJ, 40, .inr (.inl nu2))), (sn3, .inl (cJ, 40, .inr (.inl nu3))), (qf, .inl (cI, 7, .inl f2_169))]) hF (c_X9_copy_31 l D cI cJ cZ cS ta sa sv H.size g0 m_ys m_yk m_yo m_yt b0 m_yfa m_yfe m_mL m_mS m_mM m_yro m_yhe m_ygr m_mF m_mC m_mY m_yta z m_mf m_mt m_mv m_mw m_ywa m_ybi m_ysi m_ynu m_ymo m_bi m_sq m_nb m_mv9 m_mq (xs (i + 2)) (xs (i + 4)) (xs (i + 5)) sz3 sz1 r_z3 hsz3 r_z1 hsz1 m_hsq) kv_L_170 ⟨rfl, rfl, Nat.le_of_ble_eq_true rfl, Nat.le_of_ble_eq_true rfl⟩ ⟨Nat.le_of_ble_eq_true rfl, Nat.le_of_ble_eq_true rfl⟩ hK hN hZ hP hD hS hA [0, 2, 3, 4, 5, 1] [6, 7, 8, 9, 10, 11, 12, 13, 14, 15, 16] rfl rfl rfl rfl (by decide) 0 rfl rfl rfl rfl hl.1 rfl (Nat.le_of_ble_eq_true rfl) dL_law_1335 (fun r_171 u_r_171 H locs hw_r_171 hP hD hS => ?_)
      obtain ⟨nb2_172, mv2_173, mq2_174⟩ := u_r_171
      try dsimp only at hw_r_171
      obtain ⟨hw_r_171, i_175, i_176⟩ := hw_r_171
      have hP : va_P D vwCl ([(h0, .inr (8, [.ref qh, .ref qk, .ref qd, .int b0, .ref qa, .ref qm, .ref qs, .ref qp, .ref ql, .ref qt, .ref qz, .ref qf])), (qz, .inl (cS, 4, .inr (.inr (.inr (.inr (xSh s0 s1 s2 s3)))))), (s0, .inr (4, [.int bt0, .int (nI (sz0)), .ref sn0])), (s1, .inr (4, [.int bt1, .int (nI (sz1)), .ref sn1])), (s2, .inr (4, [.int bt2, .int (nI (sz2)), .ref sn2])), (s3, .inr (4, [.int bt3, .int (nI (sz3)), .ref sn3])), (sn0, .inl (cJ, 40, .inr (.inl nu0))), (sn1, .inl (cJ, 40, .inr (.inl nv_168))), (sn2, .inl (cJ, 40, .inr (.inl nu2))), (sn3, .inl (cJ, 40, .inr (.inl nu3))), (qf, .inl (cI, 7, .inl f2_169)), (g0, .inr (9, [.ref m_ys, .ref m_yk, .ref m_yo, .ref m_yt, .int b0, .ref m_yfa, .ref m_yfe, .int m_mL, .int m_mS, .int m_mM, .ref m_yro, .ref m_yhe, .ref m_ygr, .int m_mF, .int m_mC, .int m_mY, .ref m_yta, .int (nI (z)), .int (nI (m_mf)), .int (nI (m_mt)), .int m_mv, .int m_mw, .ref m_ywa, .ref m_ybi, .ref m_ysi, .ref m_ynu, .ref m_ymo])), (m_ybi, .inl (cI, 4, .inl m_bi)), (m_ysi, .inl (cI, 4, .inl m_sq)), (m_ynu, .inl (cJ, 160, .inr (.inl nb2_172))), (m_ymo, .inl (cJ, 40, .inr (.inl mv2_173))), (m_yt, .inl (cI, 7, .inl mq2_174))] ++ tl) H := hP
      have hD : va_D A ([(h0, .inr (8, [.ref qh, .ref qk, .ref qd, .int b0, .ref qa, .ref qm, .ref qs, .ref qp, .ref ql, .ref qt, .ref qz, .ref qf])), (qz, .inl (cS, 4, .inr (.inr (.inr (.inr (xSh s0 s1 s2 s3)))))), (s0, .inr (4, [.int bt0, .int (nI (sz0)), .ref sn0])), (s1, .inr (4, [.int bt1, .int (nI (sz1)), .ref sn1])), (s2, .inr (4, [.int bt2, .int (nI (sz2)), .ref sn2])), (s3, .inr (4, [.int bt3, .int (nI (sz3)), .ref sn3])), (sn0, .inl (cJ, 40, .inr (.inl nu0))), (sn1, .inl (cJ, 40, .inr (.inl nv_168))), (sn2, .inl (cJ, 40, .inr (.inl nu2))), (sn3, .inl (cJ, 40, .inr (.inl nu3))), (qf, .inl (cI, 7, .inl f2_169)), (g0, .inr (9, [.ref m_ys, .ref m_yk, .ref m_yo, .ref m_yt, .int b0, .ref m_yfa, .ref m_yfe, .int m_mL, .int m_mS, .int m_mM, .ref m_yro, .ref m_yhe, .ref m_ygr, .int m_mF, .int m_mC, .int m_mY, .ref m_yta, .int (nI (z)), .int (nI (m_mf)), .int (nI (m_mt)), .int m_mv, .int m_mw, .ref m_ywa, .ref m_ybi, .ref m_ysi, .ref m_ynu, .ref m_ymo])), (m_ybi, .inl (cI, 4, .inl m_bi)), (m_ysi, .inl (cI, 4, .inl m_sq)), (m_ynu, .inl (cJ, 160, .inr (.inl nb2_172))), (m_ymo, .inl (cJ, 40, .inr (.inl mv2_173))), (m_yt, .inl (cI, 7, .inl mq2_174))] ++ tl) := hD
      subst hw_r_171
      refine lv_pop hx hb dL_law_1338 rfl ?_
      refine lv_goto (tgt := 1483) hx hb dL_law_1339 (by decide) ?_
      exact kkx _ _ _ nu0 nv_168 nu2 nu3 f2_169 mq2_174 nb2_172 mv2_173 (xt_P hP [0, 1, 2, 3, 4, 5, 6, 7, 8, 9, 10, 11, 16, 12, 13, 14, 15] rfl) (xt_D hD [0, 1, 2, 3, 4, 5, 6, 7, 8, 9, 10, 11, 16, 12, 13, 14, 15] (by decide +kernel) rfl) (fun j hj => (i_176 (0 + j) (by omega)).trans (r_n0 j hj)) (fun j hj => (i_175 j).trans ((sp_cneq r_b3 r_b1 r_n3 (by omega) (r_n1 j hj)).trans (i_170 j).symm)) (fun j hj => (i_176 (80 + j) (by omega)).trans (r_n2 j hj)) (fun j hj => (i_176 (120 + j) (by omega)).trans (r_n3 j hj)) hS hl
    · skip
      refine lv_aload_n hx hb dL_law_1280 rfl (lv_at hl 3 rfl) ?_
      refine lv_iload_n hx hb dL_law_1281 rfl (lv_at hl 0 rfl) ?_
      refine lv_iconst (v := 1) hx hb dL_law_1282 (by decide) ?_
      refine lv_iadd hx hb dL_law_1283 ?_
      refine xl_i (y := nI (i + 1)) (nI_add i 1) ?_
      refine va_sld hx hb hX hbl hbA hS (x_si (k := 1) (by decide) hi hL) dL_law_1284 ?_
      refine xl_i (y := xs (i + 1)) (congrArg xs (x_sc (k := 1) (by decide) hi hL)) ?_
      refine xl_i (y := 3) eq1 ?_
      refine lv_aload_n hx hb dL_law_1285 rfl (lv_at hl 3 rfl) ?_
      refine lv_iload_n hx hb dL_law_1286 rfl (lv_at hl 0 rfl) ?_
      refine lv_iconst (v := 2) hx hb dL_law_1287 (by decide) ?_
      refine lv_iadd hx hb dL_law_1288 ?_
      refine xl_i (y := nI (i + 2)) (nI_add i 2) ?_
      refine va_sld hx hb hX hbl hbA hS (x_si (k := 2) (by decide) hi hL) dL_law_1289 ?_
      refine xl_i (y := xs (i + 2)) (congrArg xs (x_sc (k := 2) (by decide) hi hL)) ?_
      refine lv_aload_n hx hb dL_law_1290 rfl (lv_at hl 3 rfl) ?_
      refine lv_iload_n hx hb dL_law_1291 rfl (lv_at hl 0 rfl) ?_
      refine lv_iconst (v := 3) hx hb dL_law_1292 (by decide) ?_
      refine lv_iadd hx hb dL_law_1293 ?_
      refine xl_i (y := nI (i + 3)) (nI_add i 3) ?_
      refine va_sld hx hb hX hbl hbA hS (x_si (k := 3) (by decide) hi hL) dL_law_1294 ?_
      refine xl_i (y := xs (i + 3)) (congrArg xs (x_sc (k := 3) (by decide) hi hL)) ?_
      refine xl_i (y := 2) eq3 ?_
      refine lv_aload_n hx hb dL_law_1295 rfl (lv_at hl 3 rfl) ?_
      refine lv_iload_n hx hb dL_law_1296 rfl (lv_at hl 0 rfl) ?_
      refine lv_iconst (v := 4) hx hb dL_law_1297 (by decide) ?_
      refine lv_iadd hx hb dL_law_1298 ?_
      refine xl_i (y := nI (i + 4)) (nI_add i 4) ?_
      refine va_sld hx hb hX hbl hbA hS (x_si (k := 4) (by decide) hi hL) dL_law_1299 ?_
      refine xl_i (y := xs (i + 4)) (congrArg xs (x_sc (k := 4) (by decide) hi hL)) ?_
      refine lv_aload_n hx hb dL_law_1300 rfl (lv_at hl 3 rfl) ?_
      refine lv_iload_n hx hb dL_law_1301 rfl (lv_at hl 0 rfl) ?_
      refine lv_iconst (v := 5) hx hb dL_law_1302 (by decide) ?_
      refine lv_iadd hx hb dL_law_1303 ?_
      refine xl_i (y := nI (i + 5)) (nI_add i 5) ?_
      refine va_sld hx hb hX hbl hbA hS (x_si (k := 5) (by decide) hi hL) dL_law_1304 ?_
      refine xl_i (y := xs (i + 5)) (congrArg xs (x_sc (k := 5) (by decide) hi hL)) ?_
      refine xc_ViT (wr := [(g0, .inr (9, [.ref m_ys, .ref m_yk, .ref m_yo, .ref m_yt, .int b0, .ref m_yfa, .ref m_yfe, .int m_mL, .int m_mS, .int m_mM, .ref m_yro, .ref m_yhe, .ref m_ygr, .int m_mF, .int m_mC, .int m_mY, .ref m_yta, .int (nI (z)), .int (nI (m_mf)), .int (nI (m_mt)), .int m_mv, .int m_mw, .ref m_ywa, .ref m_ybi, .ref m_ysi, .ref m_ynu, .ref m_ymo])), (m_yt, .inl (cI, 7, .inl m_mq)), (m_ybi, .inl (cI, 4, .inl m_bi)), (m_ysi, .inl (cI, 4, .inl m_sq)), (m_ynu, .inl (cJ, 160, .inr (.inl m_nb))), (m_ymo, .inl (cJ, 40, .inr (.inl m_mv9)))]) hF (c_X8_copy_32 l D cI cJ cZ cS ta sa sv H.size h0 qh qk qd b0 qa qm qs qp ql qt qz qf s0 s1 s2 s3 bt0 sz0 sn0 bt1 sz1 sn1 bt2 sz2 sn2 bt3 sz3 sn3 nu0 nu1 nu2 nu3 ff (xs (i + 2)) (xs (i + 4)) (xs (i + 5)) hsz0 hsz1 hsz2 hsz3) kv_L_166 ⟨rfl, rfl, Nat.le_of_ble_eq_true rfl, Nat.le_of_ble_eq_true rfl⟩ ⟨Nat.le_of_ble_eq_true rfl, Nat.le_of_ble_eq_true rfl⟩ hK hN hZ hP hD hS hA [0, 1, 2, 3, 4, 5, 6, 7, 8, 9, 10] [11, 12, 13, 14, 15, 16] rfl rfl rfl rfl (by decide) 0 rfl rfl rfl rfl hl.1 rfl (Nat.le_of_ble_eq_true rfl) dL_law_1305 (fun r_177 u_r_177 H locs hw_r_177 hP hD hS => ?_)
      obtain ⟨nv_178, f2_179⟩ := u_r_177
      try dsimp only at hw_r_177
      obtain ⟨hw_r_177, i_180⟩ := hw_r_177
      have hP : va_P D vwCl ([(g0, .inr (9, [.ref m_ys, .ref m_yk, .ref m_yo, .ref m_yt, .int b0, .ref m_yfa, .ref m_yfe, .int m_mL, .int m_mS, .int m_mM, .ref m_yro, .ref m_yhe, .ref m_ygr, .int m_mF, .int m_mC, .int m_mY, .ref m_yta, .int (nI (z)), .int (nI (m_mf)), .int (nI (m_mt)), .int m_mv, .int m_mw, .ref m_ywa, .ref m_ybi, .ref m_ysi, .ref m_ynu, .ref m_ymo])), (m_yt, .inl (cI, 7, .inl m_mq)), (m_ybi, .inl (cI, 4, .inl m_bi)), (m_ysi, .inl (cI, 4, .inl m_sq)), (m_ynu, .inl (cJ, 160, .inr (.inl m_nb))), (m_ymo, .inl (cJ, 40, .inr (.inl m_mv9))), (h0, .inr (8, [.ref qh, .ref qk, .ref qd, .int b0, .ref qa, .ref qm, .ref qs, .ref qp, .ref ql, .ref qt, .ref qz, .ref qf])), (qz, .inl (cS, 4, .inr (.inr (.inr (.inr (xSh s0 s1 s2 s3)))))), (s0, .inr (4, [.int bt0, .int (nI (sz0)), .ref sn0])), (s1, .inr (4, [.int bt1, .int (nI (sz1)), .ref sn1])), (s2, .inr (4, [.int bt2, .int (nI (sz2)), .ref sn2])), (s3, .inr (4, [.int bt3, .int (nI (sz3)), .ref sn3])), (sn0, .inl (cJ, 40, .inr (.inl nu0))), (sn1, .inl (cJ, 40, .inr (.inl nu1))), (sn2, .inl (cJ, 40, .inr (.inl nv_178))), (sn3, .inl (cJ, 40, .inr (.inl nu3))), (qf, .inl (cI, 7, .inl f2_179))] ++ tl) H := hP
      have hD : va_D A ([(g0, .inr (9, [.ref m_ys, .ref m_yk, .ref m_yo, .ref m_yt, .int b0, .ref m_yfa, .ref m_yfe, .int m_mL, .int m_mS, .int m_mM, .ref m_yro, .ref m_yhe, .ref m_ygr, .int m_mF, .int m_mC, .int m_mY, .ref m_yta, .int (nI (z)), .int (nI (m_mf)), .int (nI (m_mt)), .int m_mv, .int m_mw, .ref m_ywa, .ref m_ybi, .ref m_ysi, .ref m_ynu, .ref m_ymo])), (m_yt, .inl (cI, 7, .inl m_mq)), (m_ybi, .inl (cI, 4, .inl m_bi)), (m_ysi, .inl (cI, 4, .inl m_sq)), (m_ynu, .inl (cJ, 160, .inr (.inl m_nb))), (m_ymo, .inl (cJ, 40, .inr (.inl m_mv9))), (h0, .inr (8, [.ref qh, .ref qk, .ref qd, .int b0, .ref qa, .ref qm, .ref qs, .ref qp, .ref ql, .ref qt, .ref qz, .ref qf])), (qz, .inl (cS, 4, .inr (.inr (.inr (.inr (xSh s0 s1 s2 s3)))))), (s0, .inr (4, [.int bt0, .int (nI (sz0)), .ref sn0])), (s1, .inr (4, [.int bt1, .int (nI (sz1)), .ref sn1])), (s2, .inr (4, [.int bt2, .int (nI (sz2)), .ref sn2])), (s3, .inr (4, [.int bt3, .int (nI (sz3)), .ref sn3])), (sn0, .inl (cJ, 40, .inr (.inl nu0))), (sn1, .inl (cJ, 40, .inr (.inl nu1))), (sn2, .inl (cJ, 40, .inr (.inl nv_178))), (sn3, .inl (cJ, 40, .inr (.inl nu3))), (qf, .inl (cI, 7, .inl f2_179))] ++ tl) := hD
      subst hw_r_177
      refine lv_pop hx hb dL_law_1308 rfl ?_
      refine lv_aload_n hx hb dL_law_1309 rfl (lv_at hl 1 rfl) ?_
      refine lv_aload_n hx hb dL_law_1310 rfl (lv_at hl 3 rfl) ?_
      refine lv_iload_n hx hb dL_law_1311 rfl (lv_at hl 0 rfl) ?_
      refine lv_iconst (v := 1) hx hb dL_law_1312 (by decide) ?_
      refine lv_iadd hx hb dL_law_1313 ?_
      refine xl_i (y := nI (i + 1)) (nI_add i 1) ?_
      refine va_sld hx hb hX hbl hbA hS (x_si (k := 1) (by decide) hi hL) dL_law_1314 ?_
      refine xl_i (y := xs (i + 1)) (congrArg xs (x_sc (k := 1) (by decide) hi hL)) ?_
      refine xl_i (y := 3) eq1 ?_
      refine lv_aload_n hx hb dL_law_1315 rfl (lv_at hl 3 rfl) ?_
      refine lv_iload_n hx hb dL_law_1316 rfl (lv_at hl 0 rfl) ?_
      refine lv_iconst (v := 2) hx hb dL_law_1317 (by decide) ?_
      refine lv_iadd hx hb dL_law_1318 ?_
      refine xl_i (y := nI (i + 2)) (nI_add i 2) ?_
      refine va_sld hx hb hX hbl hbA hS (x_si (k := 2) (by decide) hi hL) dL_law_1319 ?_
      refine xl_i (y := xs (i + 2)) (congrArg xs (x_sc (k := 2) (by decide) hi hL)) ?_
      refine lv_aload_n hx hb dL_law_1320 rfl (lv_at hl 3 rfl) ?_
      refine lv_iload_n hx hb dL_law_1321 rfl (lv_at hl 0 rfl) ?_
      refine lv_iconst (v := 3) hx hb dL_law_1322 (by decide) ?_
      refine lv_iadd hx hb dL_law_1323 ?_
      refine xl_i (y := nI (i + 3)) (nI_add i 3) ?_
      refine va_sld hx hb hX hbl hbA hS (x_si (k := 3) (by decide) hi hL) dL_law_1324 ?_
      refine xl_i (y := xs (i + 3)) (congrArg xs (x_sc (k := 3) (by decide) hi hL)) ?_
      refine xl_i (y := 2) eq3 ?_
      refine lv_aload_n hx hb dL_law_1325 rfl (lv_at hl 3 rfl) ?_
      refine lv_iload_n hx hb dL_law_1326 rfl (lv_at hl 0 rfl) ?_
      refine lv_iconst (v := 4) hx hb dL_law_1327 (by decide) ?_
      refine lv_iadd hx hb dL_law_1328 ?_
      refine xl_i (y := nI (i + 4)) (nI_add i 4) ?_
      refine va_sld hx hb hX hbl hbA hS (x_si (k := 4) (by decide) hi hL) dL_law_1329 ?_
      refine xl_i (y := xs (i + 4)) (congrArg xs (x_sc (k := 4) (by decide) hi hL)) ?_
      refine lv_aload_n hx hb dL_law_1330 rfl (lv_at hl 3 rfl) ?_
      refine lv_iload_n hx hb dL_law_1331 rfl (lv_at hl 0 rfl) ?_
      refine lv_iconst (v := 5) hx hb dL_law_1332 (by decide) ?_
      refine lv_iadd hx hb dL_law_1333 ?_
      refine xl_i (y := nI (i + 5)) (nI_add i 5) ?_
      refine va_sld hx hb hX hbl hbA hS (x_si (k := 5) (by decide) hi hL) dL_law_1334 ?_
      refine xl_i (y := xs (i + 5)) (congrArg xs (x_sc (k := 5) (by decide) hi hL)) ?_
      refine xc_ViT (wr := [(h0, .inr (8, [.ref qh, .ref qk, .ref qd, .int b0, .ref qa, .ref qm, .ref qs, .ref qp, .ref ql, .ref qt, .ref qz, .ref qf])), (qz, .inl (cS, 4, .inr (.inr (.inr (.inr (xSh s0 s1 s2 s3)))))), (s0, .inr (4, [.int bt0, .int (nI (sz0)), .ref sn0])), (s1, .inr (4, [.int bt1, .int (nI (sz1)), .ref sn1])), (s2, .inr (4, [.int bt2, .int (nI (sz2)), .ref sn2])), (s3, .inr (4, [.int bt3, .int (nI (sz3)), .ref sn3])), (sn0, .inl (cJ, 40, .inr (.inl nu0))), (sn1, .inl (cJ, 40, .inr (.inl nu1))), (sn2, .inl (cJ, 40, .inr (.inl nv_178))), (sn3, .inl (cJ, 40, .inr (.inl nu3))), (qf, .inl (cI, 7, .inl f2_179))]) hF (c_X9_copy_32 l D cI cJ cZ cS ta sa sv H.size g0 m_ys m_yk m_yo m_yt b0 m_yfa m_yfe m_mL m_mS m_mM m_yro m_yhe m_ygr m_mF m_mC m_mY m_yta z m_mf m_mt m_mv m_mw m_ywa m_ybi m_ysi m_ynu m_ymo m_bi m_sq m_nb m_mv9 m_mq (xs (i + 2)) (xs (i + 4)) (xs (i + 5)) sz3 sz2 r_z3 hsz3 r_z2 hsz2 m_hsq) kv_L_170 ⟨rfl, rfl, Nat.le_of_ble_eq_true rfl, Nat.le_of_ble_eq_true rfl⟩ ⟨Nat.le_of_ble_eq_true rfl, Nat.le_of_ble_eq_true rfl⟩ hK hN hZ hP hD hS hA [0, 2, 3, 4, 5, 1] [6, 7, 8, 9, 10, 11, 12, 13, 14, 15, 16] rfl rfl rfl rfl (by decide) 0 rfl rfl rfl rfl hl.1 rfl (Nat.le_of_ble_eq_true rfl) dL_law_1335 (fun r_181 u_r_181 H locs hw_r_181 hP hD hS => ?_)
      obtain ⟨nb2_182, mv2_183, mq2_184⟩ := u_r_181
      try dsimp only at hw_r_181
      obtain ⟨hw_r_181, i_185, i_186⟩ := hw_r_181
      have hP : va_P D vwCl ([(h0, .inr (8, [.ref qh, .ref qk, .ref qd, .int b0, .ref qa, .ref qm, .ref qs, .ref qp, .ref ql, .ref qt, .ref qz, .ref qf])), (qz, .inl (cS, 4, .inr (.inr (.inr (.inr (xSh s0 s1 s2 s3)))))), (s0, .inr (4, [.int bt0, .int (nI (sz0)), .ref sn0])), (s1, .inr (4, [.int bt1, .int (nI (sz1)), .ref sn1])), (s2, .inr (4, [.int bt2, .int (nI (sz2)), .ref sn2])), (s3, .inr (4, [.int bt3, .int (nI (sz3)), .ref sn3])), (sn0, .inl (cJ, 40, .inr (.inl nu0))), (sn1, .inl (cJ, 40, .inr (.inl nu1))), (sn2, .inl (cJ, 40, .inr (.inl nv_178))), (sn3, .inl (cJ, 40, .inr (.inl nu3))), (qf, .inl (cI, 7, .inl f2_179)), (g0, .inr (9, [.ref m_ys, .ref m_yk, .ref m_yo, .ref m_yt, .int b0, .ref m_yfa, .ref m_yfe, .int m_mL, .int m_mS, .int m_mM, .ref m_yro, .ref m_yhe, .ref m_ygr, .int m_mF, .int m_mC, .int m_mY, .ref m_yta, .int (nI (z)), .int (nI (m_mf)), .int (nI (m_mt)), .int m_mv, .int m_mw, .ref m_ywa, .ref m_ybi, .ref m_ysi, .ref m_ynu, .ref m_ymo])), (m_ybi, .inl (cI, 4, .inl m_bi)), (m_ysi, .inl (cI, 4, .inl m_sq)), (m_ynu, .inl (cJ, 160, .inr (.inl nb2_182))), (m_ymo, .inl (cJ, 40, .inr (.inl mv2_183))), (m_yt, .inl (cI, 7, .inl mq2_184))] ++ tl) H := hP
      have hD : va_D A ([(h0, .inr (8, [.ref qh, .ref qk, .ref qd, .int b0, .ref qa, .ref qm, .ref qs, .ref qp, .ref ql, .ref qt, .ref qz, .ref qf])), (qz, .inl (cS, 4, .inr (.inr (.inr (.inr (xSh s0 s1 s2 s3)))))), (s0, .inr (4, [.int bt0, .int (nI (sz0)), .ref sn0])), (s1, .inr (4, [.int bt1, .int (nI (sz1)), .ref sn1])), (s2, .inr (4, [.int bt2, .int (nI (sz2)), .ref sn2])), (s3, .inr (4, [.int bt3, .int (nI (sz3)), .ref sn3])), (sn0, .inl (cJ, 40, .inr (.inl nu0))), (sn1, .inl (cJ, 40, .inr (.inl nu1))), (sn2, .inl (cJ, 40, .inr (.inl nv_178))), (sn3, .inl (cJ, 40, .inr (.inl nu3))), (qf, .inl (cI, 7, .inl f2_179)), (g0, .inr (9, [.ref m_ys, .ref m_yk, .ref m_yo, .ref m_yt, .int b0, .ref m_yfa, .ref m_yfe, .int m_mL, .int m_mS, .int m_mM, .ref m_yro, .ref m_yhe, .ref m_ygr, .int m_mF, .int m_mC, .int m_mY, .ref m_yta, .int (nI (z)), .int (nI (m_mf)), .int (nI (m_mt)), .int m_mv, .int m_mw, .ref m_ywa, .ref m_ybi, .ref m_ysi, .ref m_ynu, .ref m_ymo])), (m_ybi, .inl (cI, 4, .inl m_bi)), (m_ysi, .inl (cI, 4, .inl m_sq)), (m_ynu, .inl (cJ, 160, .inr (.inl nb2_182))), (m_ymo, .inl (cJ, 40, .inr (.inl mv2_183))), (m_yt, .inl (cI, 7, .inl mq2_184))] ++ tl) := hD
      subst hw_r_181
      refine lv_pop hx hb dL_law_1338 rfl ?_
      refine lv_goto (tgt := 1483) hx hb dL_law_1339 (by decide) ?_
      exact kkx _ _ _ nu0 nu1 nv_178 nu3 f2_179 mq2_184 nb2_182 mv2_183 (xt_P hP [0, 1, 2, 3, 4, 5, 6, 7, 8, 9, 10, 11, 16, 12, 13, 14, 15] rfl) (xt_D hD [0, 1, 2, 3, 4, 5, 6, 7, 8, 9, 10, 11, 16, 12, 13, 14, 15] (by decide +kernel) rfl) (fun j hj => (i_186 (0 + j) (by omega)).trans (r_n0 j hj)) (fun j hj => (i_186 (40 + j) (by omega)).trans (r_n1 j hj)) (fun j hj => (i_185 j).trans ((sp_cneq r_b3 r_b2 r_n3 (by omega) (r_n2 j hj)).trans (i_180 j).symm)) (fun j hj => (i_186 (120 + j) (by omega)).trans (r_n3 j hj)) hS hl
    · skip
      refine lv_aload_n hx hb dL_law_1280 rfl (lv_at hl 3 rfl) ?_
      refine lv_iload_n hx hb dL_law_1281 rfl (lv_at hl 0 rfl) ?_
      refine lv_iconst (v := 1) hx hb dL_law_1282 (by decide) ?_
      refine lv_iadd hx hb dL_law_1283 ?_
      refine xl_i (y := nI (i + 1)) (nI_add i 1) ?_
      refine va_sld hx hb hX hbl hbA hS (x_si (k := 1) (by decide) hi hL) dL_law_1284 ?_
      refine xl_i (y := xs (i + 1)) (congrArg xs (x_sc (k := 1) (by decide) hi hL)) ?_
      refine xl_i (y := 3) eq1 ?_
      refine lv_aload_n hx hb dL_law_1285 rfl (lv_at hl 3 rfl) ?_
      refine lv_iload_n hx hb dL_law_1286 rfl (lv_at hl 0 rfl) ?_
      refine lv_iconst (v := 2) hx hb dL_law_1287 (by decide) ?_
      refine lv_iadd hx hb dL_law_1288 ?_
      refine xl_i (y := nI (i + 2)) (nI_add i 2) ?_
      refine va_sld hx hb hX hbl hbA hS (x_si (k := 2) (by decide) hi hL) dL_law_1289 ?_
      refine xl_i (y := xs (i + 2)) (congrArg xs (x_sc (k := 2) (by decide) hi hL)) ?_
      refine lv_aload_n hx hb dL_law_1290 rfl (lv_at hl 3 rfl) ?_
      refine lv_iload_n hx hb dL_law_1291 rfl (lv_at hl 0 rfl) ?_
      refine lv_iconst (v := 3) hx hb dL_law_1292 (by decide) ?_
      refine lv_iadd hx hb dL_law_1293 ?_
      refine xl_i (y := nI (i + 3)) (nI_add i 3) ?_
      refine va_sld hx hb hX hbl hbA hS (x_si (k := 3) (by decide) hi hL) dL_law_1294 ?_
      refine xl_i (y := xs (i + 3)) (congrArg xs (x_sc (k := 3) (by decide) hi hL)) ?_
      refine xl_i (y := 3) eq3 ?_
      refine lv_aload_n hx hb dL_law_1295 rfl (lv_at hl 3 rfl) ?_
      refine lv_iload_n hx hb dL_law_1296 rfl (lv_at hl 0 rfl) ?_
      refine lv_iconst (v := 4) hx hb dL_law_1297 (by decide) ?_
      refine lv_iadd hx hb dL_law_1298 ?_
      refine xl_i (y := nI (i + 4)) (nI_add i 4) ?_
      refine va_sld hx hb hX hbl hbA hS (x_si (k := 4) (by decide) hi hL) dL_law_1299 ?_
      refine xl_i (y := xs (i + 4)) (congrArg xs (x_sc (k := 4) (by decide) hi hL)) ?_
      refine lv_aload_n hx hb dL_law_1300 rfl (lv_at hl 3 rfl) ?_
      refine lv_iload_n hx hb dL_law_1301 rfl (lv_at hl 0 rfl) ?_
      refine lv_iconst (v := 5) hx hb dL_law_1302 (by decide) ?_
      refine lv_iadd hx hb dL_law_1303 ?_
      refine xl_i (y := nI (i + 5)) (nI_add i 5) ?_
      refine va_sld hx hb hX hbl hbA hS (x_si (k := 5) (by decide) hi hL) dL_law_1304 ?_
      refine xl_i (y := xs (i + 5)) (congrArg xs (x_sc (k := 5) (by decide) hi hL)) ?_
      refine xc_ViT (wr := [(g0, .inr (9, [.ref m_ys, .ref m_yk, .ref m_yo, .ref m_yt, .int b0, .ref m_yfa, .ref m_yfe, .int m_mL, .int m_mS, .int m_mM, .ref m_yro, .ref m_yhe, .ref m_ygr, .int m_mF, .int m_mC, .int m_mY, .ref m_yta, .int (nI (z)), .int (nI (m_mf)), .int (nI (m_mt)), .int m_mv, .int m_mw, .ref m_ywa, .ref m_ybi, .ref m_ysi, .ref m_ynu, .ref m_ymo])), (m_yt, .inl (cI, 7, .inl m_mq)), (m_ybi, .inl (cI, 4, .inl m_bi)), (m_ysi, .inl (cI, 4, .inl m_sq)), (m_ynu, .inl (cJ, 160, .inr (.inl m_nb))), (m_ymo, .inl (cJ, 40, .inr (.inl m_mv9)))]) hF (c_X8_copy_33 l D cI cJ cZ cS ta sa sv H.size h0 qh qk qd b0 qa qm qs qp ql qt qz qf s0 s1 s2 s3 bt0 sz0 sn0 bt1 sz1 sn1 bt2 sz2 sn2 bt3 sz3 sn3 nu0 nu1 nu2 nu3 ff (xs (i + 2)) (xs (i + 4)) (xs (i + 5)) hsz0 hsz1 hsz2 hsz3) kv_L_166 ⟨rfl, rfl, Nat.le_of_ble_eq_true rfl, Nat.le_of_ble_eq_true rfl⟩ ⟨Nat.le_of_ble_eq_true rfl, Nat.le_of_ble_eq_true rfl⟩ hK hN hZ hP hD hS hA [0, 1, 2, 3, 4, 5, 6, 7, 8, 9, 10] [11, 12, 13, 14, 15, 16] rfl rfl rfl rfl (by decide) 0 rfl rfl rfl rfl hl.1 rfl (Nat.le_of_ble_eq_true rfl) dL_law_1305 (fun r_187 u_r_187 H locs hw_r_187 hP hD hS => ?_)
      obtain ⟨nv_188, f2_189⟩ := u_r_187
      try dsimp only at hw_r_187
      obtain ⟨hw_r_187, i_190⟩ := hw_r_187
      have hP : va_P D vwCl ([(g0, .inr (9, [.ref m_ys, .ref m_yk, .ref m_yo, .ref m_yt, .int b0, .ref m_yfa, .ref m_yfe, .int m_mL, .int m_mS, .int m_mM, .ref m_yro, .ref m_yhe, .ref m_ygr, .int m_mF, .int m_mC, .int m_mY, .ref m_yta, .int (nI (z)), .int (nI (m_mf)), .int (nI (m_mt)), .int m_mv, .int m_mw, .ref m_ywa, .ref m_ybi, .ref m_ysi, .ref m_ynu, .ref m_ymo])), (m_yt, .inl (cI, 7, .inl m_mq)), (m_ybi, .inl (cI, 4, .inl m_bi)), (m_ysi, .inl (cI, 4, .inl m_sq)), (m_ynu, .inl (cJ, 160, .inr (.inl m_nb))), (m_ymo, .inl (cJ, 40, .inr (.inl m_mv9))), (h0, .inr (8, [.ref qh, .ref qk, .ref qd, .int b0, .ref qa, .ref qm, .ref qs, .ref qp, .ref ql, .ref qt, .ref qz, .ref qf])), (qz, .inl (cS, 4, .inr (.inr (.inr (.inr (xSh s0 s1 s2 s3)))))), (s0, .inr (4, [.int bt0, .int (nI (sz0)), .ref sn0])), (s1, .inr (4, [.int bt1, .int (nI (sz1)), .ref sn1])), (s2, .inr (4, [.int bt2, .int (nI (sz2)), .ref sn2])), (s3, .inr (4, [.int bt3, .int (nI (sz3)), .ref sn3])), (sn0, .inl (cJ, 40, .inr (.inl nu0))), (sn1, .inl (cJ, 40, .inr (.inl nu1))), (sn2, .inl (cJ, 40, .inr (.inl nu2))), (sn3, .inl (cJ, 40, .inr (.inl nv_188))), (qf, .inl (cI, 7, .inl f2_189))] ++ tl) H := hP
      have hD : va_D A ([(g0, .inr (9, [.ref m_ys, .ref m_yk, .ref m_yo, .ref m_yt, .int b0, .ref m_yfa, .ref m_yfe, .int m_mL, .int m_mS, .int m_mM, .ref m_yro, .ref m_yhe, .ref m_ygr, .int m_mF, .int m_mC, .int m_mY, .ref m_yta, .int (nI (z)), .int (nI (m_mf)), .int (nI (m_mt)), .int m_mv, .int m_mw, .ref m_ywa, .ref m_ybi, .ref m_ysi, .ref m_ynu, .ref m_ymo])), (m_yt, .inl (cI, 7, .inl m_mq)), (m_ybi, .inl (cI, 4, .inl m_bi)), (m_ysi, .inl (cI, 4, .inl m_sq)), (m_ynu, .inl (cJ, 160, .inr (.inl m_nb))), (m_ymo, .inl (cJ, 40, .inr (.inl m_mv9))), (h0, .inr (8, [.ref qh, .ref qk, .ref qd, .int b0, .ref qa, .ref qm, .ref qs, .ref qp, .ref ql, .ref qt, .ref qz, .ref qf])), (qz, .inl (cS, 4, .inr (.inr (.inr (.inr (xSh s0 s1 s2 s3)))))), (s0, .inr (4, [.int bt0, .int (nI (sz0)), .ref sn0])), (s1, .inr (4, [.int bt1, .int (nI (sz1)), .ref sn1])), (s2, .inr (4, [.int bt2, .int (nI (sz2)), .ref sn2])), (s3, .inr (4, [.int bt3, .int (nI (sz3)), .ref sn3])), (sn0, .inl (cJ, 40, .inr (.inl nu0))), (sn1, .inl (cJ, 40, .inr (.inl nu1))), (sn2, .inl (cJ, 40, .inr (.inl nu2))), (sn3, .inl (cJ, 40, .inr (.inl nv_188))), (qf, .inl (cI, 7, .inl f2_189))] ++ tl) := hD
      subst hw_r_187
      refine lv_pop hx hb dL_law_1308 rfl ?_
      refine lv_aload_n hx hb dL_law_1309 rfl (lv_at hl 1 rfl) ?_
      refine lv_aload_n hx hb dL_law_1310 rfl (lv_at hl 3 rfl) ?_
      refine lv_iload_n hx hb dL_law_1311 rfl (lv_at hl 0 rfl) ?_
      refine lv_iconst (v := 1) hx hb dL_law_1312 (by decide) ?_
      refine lv_iadd hx hb dL_law_1313 ?_
      refine xl_i (y := nI (i + 1)) (nI_add i 1) ?_
      refine va_sld hx hb hX hbl hbA hS (x_si (k := 1) (by decide) hi hL) dL_law_1314 ?_
      refine xl_i (y := xs (i + 1)) (congrArg xs (x_sc (k := 1) (by decide) hi hL)) ?_
      refine xl_i (y := 3) eq1 ?_
      refine lv_aload_n hx hb dL_law_1315 rfl (lv_at hl 3 rfl) ?_
      refine lv_iload_n hx hb dL_law_1316 rfl (lv_at hl 0 rfl) ?_
      refine lv_iconst (v := 2) hx hb dL_law_1317 (by decide) ?_
      refine lv_iadd hx hb dL_law_1318 ?_
      refine xl_i (y := nI (i + 2)) (nI_add i 2) ?_
      refine va_sld hx hb hX hbl hbA hS (x_si (k := 2) (by decide) hi hL) dL_law_1319 ?_
      refine xl_i (y := xs (i + 2)) (congrArg xs (x_sc (k := 2) (by decide) hi hL)) ?_
      refine lv_aload_n hx hb dL_law_1320 rfl (lv_at hl 3 rfl) ?_
      refine lv_iload_n hx hb dL_law_1321 rfl (lv_at hl 0 rfl) ?_
      refine lv_iconst (v := 3) hx hb dL_law_1322 (by decide) ?_
      refine lv_iadd hx hb dL_law_1323 ?_
      refine xl_i (y := nI (i + 3)) (nI_add i 3) ?_
      refine va_sld hx hb hX hbl hbA hS (x_si (k := 3) (by decide) hi hL) dL_law_1324 ?_
      refine xl_i (y := xs (i + 3)) (congrArg xs (x_sc (k := 3) (by decide) hi hL)) ?_
      refine xl_i (y := 3) eq3 ?_
      refine lv_aload_n hx hb dL_law_1325 rfl (lv_at hl 3 rfl) ?_
      refine lv_iload_n hx hb dL_law_1326 rfl (lv_at hl 0 rfl) ?_
      refine lv_iconst (v := 4) hx hb dL_law_1327 (by decide) ?_
      refine lv_iadd hx hb dL_law_1328 ?_
      refine xl_i (y := nI (i + 4)) (nI_add i 4) ?_
      refine va_sld hx hb hX hbl hbA hS (x_si (k := 4) (by decide) hi hL) dL_law_1329 ?_
      refine xl_i (y := xs (i + 4)) (congrArg xs (x_sc (k := 4) (by decide) hi hL)) ?_
      refine lv_aload_n hx hb dL_law_1330 rfl (lv_at hl 3 rfl) ?_
      refine lv_iload_n hx hb dL_law_1331 rfl (lv_at hl 0 rfl) ?_
      refine lv_iconst (v := 5) hx hb dL_law_1332 (by decide) ?_
      refine lv_iadd hx hb dL_law_1333 ?_
      refine xl_i (y := nI (i + 5)) (nI_add i 5) ?_
      refine va_sld hx hb hX hbl hbA hS (x_si (k := 5) (by decide) hi hL) dL_law_1334 ?_
      refine xl_i (y := xs (i + 5)) (congrArg xs (x_sc (k := 5) (by decide) hi hL)) ?_
      refine xc_ViT (wr := [(h0, .inr (8, [.ref qh, .ref qk, .ref qd, .int b0, .ref qa, .ref qm, .ref qs, .ref qp, .ref ql, .ref qt, .ref qz, .ref qf])), (qz, .inl (cS, 4, .inr (.inr (.inr (.inr (xSh s0 s1 s2 s3)))))), (s0, .inr (4, [.int bt0, .int (nI (sz0)), .ref sn0])), (s1, .inr (4, [.int bt1, .int (nI (sz1)), .ref sn1])), (s2, .inr (4, [.int bt2, .int (nI (sz2)), .ref sn2])), (s3, .inr (4, [.int bt3, .int (nI (sz3)), .ref sn3])), (sn0, .inl (cJ, 40, .inr (.inl nu0))), (sn1, .inl (cJ, 40, .inr (.inl nu1))), (sn2, .inl (cJ, 40, .inr (.inl nu2))), (sn3, .inl (cJ, 40, .inr (.inl nv_188))), (qf, .inl (cI, 7, .inl f2_189))]) hF (c_X9_copy_33 l D cI cJ cZ cS ta sa sv H.size g0 m_ys m_yk m_yo m_yt b0 m_yfa m_yfe m_mL m_mS m_mM m_yro m_yhe m_ygr m_mF m_mC m_mY m_yta z m_mf m_mt m_mv m_mw m_ywa m_ybi m_ysi m_ynu m_ymo m_bi m_sq m_nb m_mv9 m_mq (xs (i + 2)) (xs (i + 4)) (xs (i + 5)) sz3 sz3 r_z3 hsz3 r_z3 hsz3 m_hsq) kv_L_170 ⟨rfl, rfl, Nat.le_of_ble_eq_true rfl, Nat.le_of_ble_eq_true rfl⟩ ⟨Nat.le_of_ble_eq_true rfl, Nat.le_of_ble_eq_true rfl⟩ hK hN hZ hP hD hS hA [0, 2, 3, 4, 5, 1] [6, 7, 8, 9, 10, 11, 12, 13, 14, 15, 16] rfl rfl rfl rfl (by decide) 0 rfl rfl rfl rfl hl.1 rfl (Nat.le_of_ble_eq_true rfl) dL_law_1335 (fun r_191 u_r_191 H locs hw_r_191 hP hD hS => ?_)
      obtain ⟨nb2_192, mv2_193, mq2_194⟩ := u_r_191
      try dsimp only at hw_r_191
      obtain ⟨hw_r_191, i_195, i_196⟩ := hw_r_191
      have hP : va_P D vwCl ([(h0, .inr (8, [.ref qh, .ref qk, .ref qd, .int b0, .ref qa, .ref qm, .ref qs, .ref qp, .ref ql, .ref qt, .ref qz, .ref qf])), (qz, .inl (cS, 4, .inr (.inr (.inr (.inr (xSh s0 s1 s2 s3)))))), (s0, .inr (4, [.int bt0, .int (nI (sz0)), .ref sn0])), (s1, .inr (4, [.int bt1, .int (nI (sz1)), .ref sn1])), (s2, .inr (4, [.int bt2, .int (nI (sz2)), .ref sn2])), (s3, .inr (4, [.int bt3, .int (nI (sz3)), .ref sn3])), (sn0, .inl (cJ, 40, .inr (.inl nu0))), (sn1, .inl (cJ, 40, .inr (.inl nu1))), (sn2, .inl (cJ, 40, .inr (.inl nu2))), (sn3, .inl (cJ, 40, .inr (.inl nv_188))), (qf, .inl (cI, 7, .inl f2_189)), (g0, .inr (9, [.ref m_ys, .ref m_yk, .ref m_yo, .ref m_yt, .int b0, .ref m_yfa, .ref m_yfe, .int m_mL, .int m_mS, .int m_mM, .ref m_yro, .ref m_yhe, .ref m_ygr, .int m_mF, .int m_mC, .int m_mY, .ref m_yta, .int (nI (z)), .int (nI (m_mf)), .int (nI (m_mt)), .int m_mv, .int m_mw, .ref m_ywa, .ref m_ybi, .ref m_ysi, .ref m_ynu, .ref m_ymo])), (m_ybi, .inl (cI, 4, .inl m_bi)), (m_ysi, .inl (cI, 4, .inl m_sq)), (m_ynu, .inl (cJ, 160, .inr (.inl nb2_192))), (m_ymo, .inl (cJ, 40, .inr (.inl mv2_193))), (m_yt, .inl (cI, 7, .inl mq2_194))] ++ tl) H := hP
      have hD : va_D A ([(h0, .inr (8, [.ref qh, .ref qk, .ref qd, .int b0, .ref qa, .ref qm, .ref qs, .ref qp, .ref ql, .ref qt, .ref qz, .ref qf])), (qz, .inl (cS, 4, .inr (.inr (.inr (.inr (xSh s0 s1 s2 s3)))))), (s0, .inr (4, [.int bt0, .int (nI (sz0)), .ref sn0])), (s1, .inr (4, [.int bt1, .int (nI (sz1)), .ref sn1])), (s2, .inr (4, [.int bt2, .int (nI (sz2)), .ref sn2])), (s3, .inr (4, [.int bt3, .int (nI (sz3)), .ref sn3])), (sn0, .inl (cJ, 40, .inr (.inl nu0))), (sn1, .inl (cJ, 40, .inr (.inl nu1))), (sn2, .inl (cJ, 40, .inr (.inl nu2))), (sn3, .inl (cJ, 40, .inr (.inl nv_188))), (qf, .inl (cI, 7, .inl f2_189)), (g0, .inr (9, [.ref m_ys, .ref m_yk, .ref m_yo, .ref m_yt, .int b0, .ref m_yfa, .ref m_yfe, .int m_mL, .int m_mS, .int m_mM, .ref m_yro, .ref m_yhe, .ref m_ygr, .int m_mF, .int m_mC, .int m_mY, .ref m_yta, .int (nI (z)), .int (nI (m_mf)), .int (nI (m_mt)), .int m_mv, .int m_mw, .ref m_ywa, .ref m_ybi, .ref m_ysi, .ref m_ynu, .ref m_ymo])), (m_ybi, .inl (cI, 4, .inl m_bi)), (m_ysi, .inl (cI, 4, .inl m_sq)), (m_ynu, .inl (cJ, 160, .inr (.inl nb2_192))), (m_ymo, .inl (cJ, 40, .inr (.inl mv2_193))), (m_yt, .inl (cI, 7, .inl mq2_194))] ++ tl) := hD
      subst hw_r_191
      refine lv_pop hx hb dL_law_1338 rfl ?_
      refine lv_goto (tgt := 1483) hx hb dL_law_1339 (by decide) ?_
      exact kkx _ _ _ nu0 nu1 nu2 nv_188 f2_189 mq2_194 nb2_192 mv2_193 (xt_P hP [0, 1, 2, 3, 4, 5, 6, 7, 8, 9, 10, 11, 16, 12, 13, 14, 15] rfl) (xt_D hD [0, 1, 2, 3, 4, 5, 6, 7, 8, 9, 10, 11, 16, 12, 13, 14, 15] (by decide +kernel) rfl) (fun j hj => (i_196 (0 + j) (by omega)).trans (r_n0 j hj)) (fun j hj => (i_196 (40 + j) (by omega)).trans (r_n1 j hj)) (fun j hj => (i_196 (80 + j) (by omega)).trans (r_n2 j hj)) (fun j hj => (i_195 j).trans ((sp_cneq r_b3 r_b3 r_n3 (by omega) (r_n3 j hj)).trans (i_190 j).symm)) hS hl
set_option maxHeartbeats 4000000 in
set_option maxRecDepth 100000 in
theorem law_37 {p : Program} {e : Env} {s : State} {m : MethodId} {below : List Frame} {meth : Method} {c : Code} (l : Launch) (D : va_G) (cI cJ cZ cS : ClassId) (ta : Nat) (sa sv : Nat → Nat) {b L : Nat} {xs : Nat → Int32} {A : Nat → Prop} (hL : L ≤ 3072) (hF : CallFix p m c cL_law 4 s #[Value.ref b] (Cond.initialized RX8 :: wsU) RL) (hr : meth.sig.returnType = ret) (hlk : meth.locks = false) (hK : va_K D vwCl (xT cI cJ cZ cS) s) (hN : XN sa s) (hX : va_X b L xs s s.heap) (hbl : b < s.heap.size) (hA : ∀ q : Nat, s.heap.size ≤ q → A q) (hbA : ¬ A b) (hAs : ∀ q, A q → s.heap.size ≤ q) (hZ : ST ta sa sv A s s.heap) (h0 g0 i : Nat) (hi : i + 6 ≤ L) (qh : Nat) (qk : Nat) (qd : Nat) (b0 : Int32) (qa : Nat) (qm : Nat) (qs : Nat) (qp : Nat) (ql : Nat) (qt : Nat) (qz : Nat) (qf : Nat) (Pa : Nat) (ae : Nat) (al : Nat) (au : Nat) (ao : Nat) (ar : Nat) (ak : Nat) (aw : Nat) (att : Nat) (ass : Nat) (fal : Nat → Int32) (fau : Nat → Int32) (fao : Nat → Int32) (s0 : Nat) (s1 : Nat) (s2 : Nat) (s3 : Nat) (bt0 : Int32) (sz0 : Nat) (sn0 : Nat) (bt1 : Int32) (sz1 : Nat) (sn1 : Nat) (bt2 : Int32) (sz2 : Nat) (sn2 : Nat) (bt3 : Int32) (sz3 : Nat) (sn3 : Nat) (nu0 : Nat → Int64) (nu1 : Nat → Int64) (nu2 : Nat → Int64) (nu3 : Nat → Int64) (ff : Nat → Int32) (m_ys : Nat) (m_yk : Nat) (m_yo : Nat) (m_yt : Nat) (m_yfa : Nat) (m_yfe : Nat) (m_mL : Int32) (m_mS : Int32) (m_mM : Int32) (m_yro : Nat) (m_yhe : Nat) (m_ygr : Nat) (m_mF : Int32) (m_mC : Int32) (m_mY : Int32) (m_yta : Nat) (z : Nat) (m_mf : Nat) (m_mt : Nat) (m_mv : Int32) (m_mw : Int32) (m_ywa : Nat) (m_ybi : Nat) (m_ysi : Nat) (m_ynu : Nat) (m_ymo : Nat) (m_ms : Nat → Int32) (m_mq : Nat → Int32) (m_bi : Nat → Int32) (m_sq : Nat → Int32) (m_nb : Nat → Int64) (m_P : Nat) (m_Rn : Nat) (m_Wn : Nat) {tl : va_W} {H : Heap} {locs : List Loc} {ls : Array Slot} (hP : va_P D vwCl ([(h0, .inr (8, [.ref qh, .ref qk, .ref qd, .int b0, .ref qa, .ref qm, .ref qs, .ref qp, .ref ql, .ref qt, .ref qz, .ref qf])), (qh, .inr (1, [.int (nI (Pa)), .ref ae, .ref al, .ref au, .ref ao, .ref ar, .ref ak, .ref aw, .ref att, .ref ass])), (al, .inl (cI, 100, .inl fal)), (au, .inl (cI, 100, .inl fau)), (ao, .inl (cI, 100, .inl fao)), (qz, .inl (cS, 4, .inr (.inr (.inr (.inr (xSh s0 s1 s2 s3)))))), (s0, .inr (4, [.int bt0, .int (nI (sz0)), .ref sn0])), (s1, .inr (4, [.int bt1, .int (nI (sz1)), .ref sn1])), (s2, .inr (4, [.int bt2, .int (nI (sz2)), .ref sn2])), (s3, .inr (4, [.int bt3, .int (nI (sz3)), .ref sn3])), (sn0, .inl (cJ, 40, .inr (.inl nu0))), (sn1, .inl (cJ, 40, .inr (.inl nu1))), (sn2, .inl (cJ, 40, .inr (.inl nu2))), (sn3, .inl (cJ, 40, .inr (.inl nu3))), (qf, .inl (cI, 7, .inl ff)), (g0, .inr (9, [.ref m_ys, .ref m_yk, .ref m_yo, .ref m_yt, .int b0, .ref m_yfa, .ref m_yfe, .int m_mL, .int m_mS, .int m_mM, .ref m_yro, .ref m_yhe, .ref m_ygr, .int m_mF, .int m_mC, .int m_mY, .ref m_yta, .int (nI (z)), .int (nI (m_mf)), .int (nI (m_mt)), .int m_mv, .int m_mw, .ref m_ywa, .ref m_ybi, .ref m_ysi, .ref m_ynu, .ref m_ymo])), (m_ys, .inl (cI, 449, .inl m_ms)), (m_yt, .inl (cI, 7, .inl m_mq)), (m_ybi, .inl (cI, 4, .inl m_bi)), (m_ysi, .inl (cI, 4, .inl m_sq)), (m_ynu, .inl (cJ, 160, .inr (.inl m_nb)))] ++ tl) H) (hD : va_D A ([(h0, .inr (8, [.ref qh, .ref qk, .ref qd, .int b0, .ref qa, .ref qm, .ref qs, .ref qp, .ref ql, .ref qt, .ref qz, .ref qf])), (qh, .inr (1, [.int (nI (Pa)), .ref ae, .ref al, .ref au, .ref ao, .ref ar, .ref ak, .ref aw, .ref att, .ref ass])), (al, .inl (cI, 100, .inl fal)), (au, .inl (cI, 100, .inl fau)), (ao, .inl (cI, 100, .inl fao)), (qz, .inl (cS, 4, .inr (.inr (.inr (.inr (xSh s0 s1 s2 s3)))))), (s0, .inr (4, [.int bt0, .int (nI (sz0)), .ref sn0])), (s1, .inr (4, [.int bt1, .int (nI (sz1)), .ref sn1])), (s2, .inr (4, [.int bt2, .int (nI (sz2)), .ref sn2])), (s3, .inr (4, [.int bt3, .int (nI (sz3)), .ref sn3])), (sn0, .inl (cJ, 40, .inr (.inl nu0))), (sn1, .inl (cJ, 40, .inr (.inl nu1))), (sn2, .inl (cJ, 40, .inr (.inl nu2))), (sn3, .inl (cJ, 40, .inr (.inl nu3))), (qf, .inl (cI, 7, .inl ff)), (g0, .inr (9, [.ref m_ys, .ref m_yk, .ref m_yo, .ref m_yt, .int b0, .ref m_yfa, .ref m_yfe, .int m_mL, .int m_mS, .int m_mM, .ref m_yro, .ref m_yhe, .ref m_ygr, .int m_mF, .int m_mC, .int m_mY, .ref m_yta, .int (nI (z)), .int (nI (m_mf)), .int (nI (m_mt)), .int m_mv, .int m_mw, .ref m_ywa, .ref m_ybi, .ref m_ysi, .ref m_ynu, .ref m_ymo])), (m_ys, .inl (cI, 449, .inl m_ms)), (m_yt, .inl (cI, 7, .inl m_mq)), (m_ybi, .inl (cI, 4, .inl m_bi)), (m_ysi, .inl (cI, 4, .inl m_sq)), (m_ynu, .inl (cJ, 160, .inr (.inl m_nb)))] ++ tl)) (hP0 : Pa ≤ 10) (hz : z ≤ 120) (hsz0 : sz0 ≤ 40) (hsz1 : sz1 ≤ 40) (hsz2 : sz2 ≤ 40) (hsz3 : sz3 ≤ 40) (r_b0 : m_bi 0 = bt0) (r_z0 : m_sq 0 = nI sz0) (r_n0 : ∀ j, j < 40 → m_nb (0 + j) = nu0 j) (r_b1 : m_bi 1 = bt1) (r_z1 : m_sq 1 = nI sz1) (r_n1 : ∀ j, j < 40 → m_nb (40 + j) = nu1 j) (r_b2 : m_bi 2 = bt2) (r_z2 : m_sq 2 = nI sz2) (r_n2 : ∀ j, j < 40 → m_nb (80 + j) = nu2 j) (r_b3 : m_bi 3 = bt3) (r_z3 : m_sq 3 = nI sz3) (r_n3 : ∀ j, j < 40 → m_nb (120 + j) = nu3 j) (m_hs0 : m_ms 0 = nI m_P) (m_hs1 : m_ms 1 = nI m_Rn) (m_hs2 : m_ms 2 = nI m_Wn) (m_hsS : SI m_ms) (m_hsM : MI m_ms) (m_hsp : m_P ≤ 10) (m_hsr : m_Rn ≤ 8) (m_hsw : m_Wn ≤ 8) (m_hsR : RI m_Rn m_ms) (m_hsq : BA 4 41 m_sq) (hS : va_S A s.heap H locs) (hl : lv_has ls 4 [(3, .int (nI i)), (2, .ref g0), (1, .ref h0), (0, .ref b)]) (kkx : ∀ (H : Heap) (locs : List Loc) (ls : Array Slot) (fal_n : Nat → Int32) (fau_n : Nat → Int32) (fao_n : Nat → Int32) (ff_n : Nat → Int32) (m_ms_n : Nat → Int32) (m_mq_n : Nat → Int32), va_P D vwCl ([(h0, .inr (8, [.ref qh, .ref qk, .ref qd, .int b0, .ref qa, .ref qm, .ref qs, .ref qp, .ref ql, .ref qt, .ref qz, .ref qf])), (qh, .inr (1, [.int (nI (Pa)), .ref ae, .ref al, .ref au, .ref ao, .ref ar, .ref ak, .ref aw, .ref att, .ref ass])), (al, .inl (cI, 100, .inl fal_n)), (au, .inl (cI, 100, .inl fau_n)), (ao, .inl (cI, 100, .inl fao_n)), (qz, .inl (cS, 4, .inr (.inr (.inr (.inr (xSh s0 s1 s2 s3)))))), (s0, .inr (4, [.int bt0, .int (nI (sz0)), .ref sn0])), (s1, .inr (4, [.int bt1, .int (nI (sz1)), .ref sn1])), (s2, .inr (4, [.int bt2, .int (nI (sz2)), .ref sn2])), (s3, .inr (4, [.int bt3, .int (nI (sz3)), .ref sn3])), (sn0, .inl (cJ, 40, .inr (.inl nu0))), (sn1, .inl (cJ, 40, .inr (.inl nu1))), (sn2, .inl (cJ, 40, .inr (.inl nu2))), (sn3, .inl (cJ, 40, .inr (.inl nu3))), (qf, .inl (cI, 7, .inl ff_n)), (g0, .inr (9, [.ref m_ys, .ref m_yk, .ref m_yo, .ref m_yt, .int b0, .ref m_yfa, .ref m_yfe, .int m_mL, .int m_mS, .int m_mM, .ref m_yro, .ref m_yhe, .ref m_ygr, .int m_mF, .int m_mC, .int m_mY, .ref m_yta, .int (nI (z)), .int (nI (m_mf)), .int (nI (m_mt)), .int m_mv, .int m_mw, .ref m_ywa, .ref m_ybi, .ref m_ysi, .ref m_ynu, .ref m_ymo])), (m_ys, .inl (cI, 449, .inl m_ms_n)), (m_yt, .inl (cI, 7, .inl m_mq_n)), (m_ybi, .inl (cI, 4, .inl m_bi)), (m_ysi, .inl (cI, 4, .inl m_sq)), (m_ynu, .inl (cJ, 160, .inr (.inl m_nb)))] ++ tl) H → va_D A ([(h0, .inr (8, [.ref qh, .ref qk, .ref qd, .int b0, .ref qa, .ref qm, .ref qs, .ref qp, .ref ql, .ref qt, .ref qz, .ref qf])), (qh, .inr (1, [.int (nI (Pa)), .ref ae, .ref al, .ref au, .ref ao, .ref ar, .ref ak, .ref aw, .ref att, .ref ass])), (al, .inl (cI, 100, .inl fal_n)), (au, .inl (cI, 100, .inl fau_n)), (ao, .inl (cI, 100, .inl fao_n)), (qz, .inl (cS, 4, .inr (.inr (.inr (.inr (xSh s0 s1 s2 s3)))))), (s0, .inr (4, [.int bt0, .int (nI (sz0)), .ref sn0])), (s1, .inr (4, [.int bt1, .int (nI (sz1)), .ref sn1])), (s2, .inr (4, [.int bt2, .int (nI (sz2)), .ref sn2])), (s3, .inr (4, [.int bt3, .int (nI (sz3)), .ref sn3])), (sn0, .inl (cJ, 40, .inr (.inl nu0))), (sn1, .inl (cJ, 40, .inr (.inl nu1))), (sn2, .inl (cJ, 40, .inr (.inl nu2))), (sn3, .inl (cJ, 40, .inr (.inl nu3))), (qf, .inl (cI, 7, .inl ff_n)), (g0, .inr (9, [.ref m_ys, .ref m_yk, .ref m_yo, .ref m_yt, .int b0, .ref m_yfa, .ref m_yfe, .int m_mL, .int m_mS, .int m_mM, .ref m_yro, .ref m_yhe, .ref m_ygr, .int m_mF, .int m_mC, .int m_mY, .ref m_yta, .int (nI (z)), .int (nI (m_mf)), .int (nI (m_mt)), .int m_mv, .int m_mw, .ref m_ywa, .ref m_ybi, .ref m_ysi, .ref m_ynu, .ref m_ymo])), (m_ys, .inl (cI, 449, .inl m_ms_n)), (m_yt, .inl (cI, 7, .inl m_mq_n)), (m_ybi, .inl (cI, 4, .inl m_bi)), (m_ysi, .inl (cI, 4, .inl m_sq)), (m_ynu, .inl (cJ, 160, .inr (.inl m_nb)))] ++ tl) → (m_ms_n 0 = nI m_P) → (m_ms_n 1 = nI m_Rn) → (m_ms_n 2 = nI m_Wn) → (SI m_ms_n) → (MI m_ms_n) → (RI m_Rn m_ms_n) → va_S A s.heap H locs → lv_has ls 4 [(3, .int (nI i)), (2, .ref g0), (1, .ref h0), (0, .ref b)] → W p l e room_1 s m #[Value.ref b] below meth c H locs 82 4273 (lw_Z below #[Value.ref b] s) (F0 m 1483 ls [])) : W p l e room_1 s m #[Value.ref b] below meth c H locs 82 4273 (lw_Z below #[Value.ref b] s) (F0 m 1342 ls []) := by
  have hx := hF.1
  have hb := hF.2.1
  have hml := hF.2.2.1
  have hown := hF.2.2.2.1
  have hu : ∀ w ∈ wsU, w.before _ s = true := fun w h => hF.2.2.2.2 w (List.mem_cons_of_mem _ h)
  refine lv_aload_n hx hb dL_law_1342 rfl (lv_at hl 2 rfl) ?_
  refine lv_aload_n hx hb dL_law_1343 rfl (lv_at hl 3 rfl) ?_
  refine lv_iload_n hx hb dL_law_1344 rfl (lv_at hl 0 rfl) ?_
  refine lv_iconst (v := 1) hx hb dL_law_1345 (by decide) ?_
  refine lv_iadd hx hb dL_law_1346 ?_
  refine xl_i (y := nI (i + 1)) (nI_add i 1) ?_
  refine va_sld hx hb hX hbl hbA hS (x_si (k := 1) (by decide) hi hL) dL_law_1347 ?_
  refine xl_i (y := xs (i + 1)) (congrArg xs (x_sc (k := 1) (by decide) hi hL)) ?_
  refine lv_aload_n hx hb dL_law_1348 rfl (lv_at hl 3 rfl) ?_
  refine lv_iload_n hx hb dL_law_1349 rfl (lv_at hl 0 rfl) ?_
  refine lv_iconst (v := 2) hx hb dL_law_1350 (by decide) ?_
  refine lv_iadd hx hb dL_law_1351 ?_
  refine xl_i (y := nI (i + 2)) (nI_add i 2) ?_
  refine va_sld hx hb hX hbl hbA hS (x_si (k := 2) (by decide) hi hL) dL_law_1352 ?_
  refine xl_i (y := xs (i + 2)) (congrArg xs (x_sc (k := 2) (by decide) hi hL)) ?_
  refine xc_ViT (wr := [(g0, .inr (9, [.ref m_ys, .ref m_yk, .ref m_yo, .ref m_yt, .int b0, .ref m_yfa, .ref m_yfe, .int m_mL, .int m_mS, .int m_mM, .ref m_yro, .ref m_yhe, .ref m_ygr, .int m_mF, .int m_mC, .int m_mY, .ref m_yta, .int (nI (z)), .int (nI (m_mf)), .int (nI (m_mt)), .int m_mv, .int m_mw, .ref m_ywa, .ref m_ybi, .ref m_ysi, .ref m_ynu, .ref m_ymo])), (m_ys, .inl (cI, 449, .inl m_ms)), (m_yt, .inl (cI, 7, .inl m_mq)), (m_ybi, .inl (cI, 4, .inl m_bi)), (m_ysi, .inl (cI, 4, .inl m_sq)), (m_ynu, .inl (cJ, 160, .inr (.inl m_nb)))]) hF (c_X8_lays l D cI cJ cZ cS ta sa sv H.size h0 qh qk qd b0 qa qm qs qp ql qt qz qf Pa ae al au ao ar ak aw att ass fal fau fao s0 s1 s2 s3 bt0 sz0 sn0 bt1 sz1 sn1 bt2 sz2 sn2 bt3 sz3 sn3 nu0 nu1 nu2 nu3 ff (xs (i + 1)) (xs (i + 2)) hP0 hsz0 hsz1 hsz2 hsz3) kv_L_171 ⟨rfl, rfl, Nat.le_of_ble_eq_true rfl, Nat.le_of_ble_eq_true rfl⟩ ⟨Nat.le_of_ble_eq_true rfl, Nat.le_of_ble_eq_true rfl⟩ hK hN hZ hP hD hS hA [0, 1, 2, 3, 4, 5, 6, 7, 8, 9, 10, 11, 12, 13, 14] [15, 16, 17, 18, 19, 20] rfl rfl rfl rfl (by decide) 0 rfl rfl rfl rfl hl.1 rfl (Nat.le_of_ble_eq_true rfl) dL_law_1353 (fun r_1 u_r_1 H locs hw_r_1 hP hD hS => ?_)
  obtain ⟨l2_2, u2_3, d2_4, f2_5⟩ := u_r_1
  try dsimp only at hw_r_1
  have hP : va_P D vwCl ([(g0, .inr (9, [.ref m_ys, .ref m_yk, .ref m_yo, .ref m_yt, .int b0, .ref m_yfa, .ref m_yfe, .int m_mL, .int m_mS, .int m_mM, .ref m_yro, .ref m_yhe, .ref m_ygr, .int m_mF, .int m_mC, .int m_mY, .ref m_yta, .int (nI (z)), .int (nI (m_mf)), .int (nI (m_mt)), .int m_mv, .int m_mw, .ref m_ywa, .ref m_ybi, .ref m_ysi, .ref m_ynu, .ref m_ymo])), (m_ys, .inl (cI, 449, .inl m_ms)), (m_yt, .inl (cI, 7, .inl m_mq)), (m_ybi, .inl (cI, 4, .inl m_bi)), (m_ysi, .inl (cI, 4, .inl m_sq)), (m_ynu, .inl (cJ, 160, .inr (.inl m_nb))), (h0, .inr (8, [.ref qh, .ref qk, .ref qd, .int b0, .ref qa, .ref qm, .ref qs, .ref qp, .ref ql, .ref qt, .ref qz, .ref qf])), (qh, .inr (1, [.int (nI (Pa)), .ref ae, .ref al, .ref au, .ref ao, .ref ar, .ref ak, .ref aw, .ref att, .ref ass])), (al, .inl (cI, 100, .inl l2_2)), (au, .inl (cI, 100, .inl u2_3)), (ao, .inl (cI, 100, .inl d2_4)), (qz, .inl (cS, 4, .inr (.inr (.inr (.inr (xSh s0 s1 s2 s3)))))), (s0, .inr (4, [.int bt0, .int (nI (sz0)), .ref sn0])), (s1, .inr (4, [.int bt1, .int (nI (sz1)), .ref sn1])), (s2, .inr (4, [.int bt2, .int (nI (sz2)), .ref sn2])), (s3, .inr (4, [.int bt3, .int (nI (sz3)), .ref sn3])), (sn0, .inl (cJ, 40, .inr (.inl nu0))), (sn1, .inl (cJ, 40, .inr (.inl nu1))), (sn2, .inl (cJ, 40, .inr (.inl nu2))), (sn3, .inl (cJ, 40, .inr (.inl nu3))), (qf, .inl (cI, 7, .inl f2_5))] ++ tl) H := hP
  have hD : va_D A ([(g0, .inr (9, [.ref m_ys, .ref m_yk, .ref m_yo, .ref m_yt, .int b0, .ref m_yfa, .ref m_yfe, .int m_mL, .int m_mS, .int m_mM, .ref m_yro, .ref m_yhe, .ref m_ygr, .int m_mF, .int m_mC, .int m_mY, .ref m_yta, .int (nI (z)), .int (nI (m_mf)), .int (nI (m_mt)), .int m_mv, .int m_mw, .ref m_ywa, .ref m_ybi, .ref m_ysi, .ref m_ynu, .ref m_ymo])), (m_ys, .inl (cI, 449, .inl m_ms)), (m_yt, .inl (cI, 7, .inl m_mq)), (m_ybi, .inl (cI, 4, .inl m_bi)), (m_ysi, .inl (cI, 4, .inl m_sq)), (m_ynu, .inl (cJ, 160, .inr (.inl m_nb))), (h0, .inr (8, [.ref qh, .ref qk, .ref qd, .int b0, .ref qa, .ref qm, .ref qs, .ref qp, .ref ql, .ref qt, .ref qz, .ref qf])), (qh, .inr (1, [.int (nI (Pa)), .ref ae, .ref al, .ref au, .ref ao, .ref ar, .ref ak, .ref aw, .ref att, .ref ass])), (al, .inl (cI, 100, .inl l2_2)), (au, .inl (cI, 100, .inl u2_3)), (ao, .inl (cI, 100, .inl d2_4)), (qz, .inl (cS, 4, .inr (.inr (.inr (.inr (xSh s0 s1 s2 s3)))))), (s0, .inr (4, [.int bt0, .int (nI (sz0)), .ref sn0])), (s1, .inr (4, [.int bt1, .int (nI (sz1)), .ref sn1])), (s2, .inr (4, [.int bt2, .int (nI (sz2)), .ref sn2])), (s3, .inr (4, [.int bt3, .int (nI (sz3)), .ref sn3])), (sn0, .inl (cJ, 40, .inr (.inl nu0))), (sn1, .inl (cJ, 40, .inr (.inl nu1))), (sn2, .inl (cJ, 40, .inr (.inl nu2))), (sn3, .inl (cJ, 40, .inr (.inl nu3))), (qf, .inl (cI, 7, .inl f2_5))] ++ tl) := hD
  refine lv_pop hx hb dL_law_1356 rfl ?_
  refine lv_aload_n hx hb dL_law_1357 rfl (lv_at hl 1 rfl) ?_
  refine lv_aload_n hx hb dL_law_1358 rfl (lv_at hl 3 rfl) ?_
  refine lv_iload_n hx hb dL_law_1359 rfl (lv_at hl 0 rfl) ?_
  refine lv_iconst (v := 1) hx hb dL_law_1360 (by decide) ?_
  refine lv_iadd hx hb dL_law_1361 ?_
  refine xl_i (y := nI (i + 1)) (nI_add i 1) ?_
  refine va_sld hx hb hX hbl hbA hS (x_si (k := 1) (by decide) hi hL) dL_law_1362 ?_
  refine xl_i (y := xs (i + 1)) (congrArg xs (x_sc (k := 1) (by decide) hi hL)) ?_
  refine lv_aload_n hx hb dL_law_1363 rfl (lv_at hl 3 rfl) ?_
  refine lv_iload_n hx hb dL_law_1364 rfl (lv_at hl 0 rfl) ?_
  refine lv_iconst (v := 2) hx hb dL_law_1365 (by decide) ?_
  refine lv_iadd hx hb dL_law_1366 ?_
  refine xl_i (y := nI (i + 2)) (nI_add i 2) ?_
  refine va_sld hx hb hX hbl hbA hS (x_si (k := 2) (by decide) hi hL) dL_law_1367 ?_
  refine xl_i (y := xs (i + 2)) (congrArg xs (x_sc (k := 2) (by decide) hi hL)) ?_
  refine xc_ViT (wr := [(h0, .inr (8, [.ref qh, .ref qk, .ref qd, .int b0, .ref qa, .ref qm, .ref qs, .ref qp, .ref ql, .ref qt, .ref qz, .ref qf])), (qh, .inr (1, [.int (nI (Pa)), .ref ae, .ref al, .ref au, .ref ao, .ref ar, .ref ak, .ref aw, .ref att, .ref ass])), (al, .inl (cI, 100, .inl l2_2)), (au, .inl (cI, 100, .inl u2_3)), (ao, .inl (cI, 100, .inl d2_4)), (qz, .inl (cS, 4, .inr (.inr (.inr (.inr (xSh s0 s1 s2 s3)))))), (s0, .inr (4, [.int bt0, .int (nI (sz0)), .ref sn0])), (s1, .inr (4, [.int bt1, .int (nI (sz1)), .ref sn1])), (s2, .inr (4, [.int bt2, .int (nI (sz2)), .ref sn2])), (s3, .inr (4, [.int bt3, .int (nI (sz3)), .ref sn3])), (sn0, .inl (cJ, 40, .inr (.inl nu0))), (sn1, .inl (cJ, 40, .inr (.inl nu1))), (sn2, .inl (cJ, 40, .inr (.inl nu2))), (sn3, .inl (cJ, 40, .inr (.inl nu3))), (qf, .inl (cI, 7, .inl f2_5))]) hF (c_X9_lays l D cI cJ cZ cS ta sa sv H.size g0 m_ys m_yk m_yo m_yt b0 m_yfa m_yfe m_mL m_mS m_mM m_yro m_yhe m_ygr m_mF m_mC m_mY m_yta z m_mf m_mt m_mv m_mw m_ywa m_ybi m_ysi m_ynu m_ymo m_ms m_bi m_sq m_nb m_mq m_P m_Rn m_Wn (xs (i + 1)) (xs (i + 2)) m_hsq m_hs0 m_hs1 m_hs2 m_hsS m_hsM m_hsp m_hsr m_hsw m_hsR) kv_L_174 ⟨rfl, rfl, Nat.le_of_ble_eq_true rfl, Nat.le_of_ble_eq_true rfl⟩ ⟨Nat.le_of_ble_eq_true rfl, Nat.le_of_ble_eq_true rfl⟩ hK hN hZ hP hD hS hA [0, 1, 3, 4, 5, 2] [6, 7, 8, 9, 10, 11, 12, 13, 14, 15, 16, 17, 18, 19, 20] rfl rfl rfl rfl (by decide) 0 rfl rfl rfl rfl hl.1 rfl (Nat.le_of_ble_eq_true rfl) dL_law_1368 (fun r_6 u_r_6 H locs hw_r_6 hP hD hS => ?_)
  obtain ⟨ms2_7, mq2_8⟩ := u_r_6
  try dsimp only at hw_r_6
  obtain ⟨hw_r_6, i_9, i_10, i_11, i_12, i_13, i_14, i_15, i_16, i_17⟩ := hw_r_6
  have hP : va_P D vwCl ([(h0, .inr (8, [.ref qh, .ref qk, .ref qd, .int b0, .ref qa, .ref qm, .ref qs, .ref qp, .ref ql, .ref qt, .ref qz, .ref qf])), (qh, .inr (1, [.int (nI (Pa)), .ref ae, .ref al, .ref au, .ref ao, .ref ar, .ref ak, .ref aw, .ref att, .ref ass])), (al, .inl (cI, 100, .inl l2_2)), (au, .inl (cI, 100, .inl u2_3)), (ao, .inl (cI, 100, .inl d2_4)), (qz, .inl (cS, 4, .inr (.inr (.inr (.inr (xSh s0 s1 s2 s3)))))), (s0, .inr (4, [.int bt0, .int (nI (sz0)), .ref sn0])), (s1, .inr (4, [.int bt1, .int (nI (sz1)), .ref sn1])), (s2, .inr (4, [.int bt2, .int (nI (sz2)), .ref sn2])), (s3, .inr (4, [.int bt3, .int (nI (sz3)), .ref sn3])), (sn0, .inl (cJ, 40, .inr (.inl nu0))), (sn1, .inl (cJ, 40, .inr (.inl nu1))), (sn2, .inl (cJ, 40, .inr (.inl nu2))), (sn3, .inl (cJ, 40, .inr (.inl nu3))), (qf, .inl (cI, 7, .inl f2_5)), (g0, .inr (9, [.ref m_ys, .ref m_yk, .ref m_yo, .ref m_yt, .int b0, .ref m_yfa, .ref m_yfe, .int m_mL, .int m_mS, .int m_mM, .ref m_yro, .ref m_yhe, .ref m_ygr, .int m_mF, .int m_mC, .int m_mY, .ref m_yta, .int (nI (z)), .int (nI (m_mf)), .int (nI (m_mt)), .int m_mv, .int m_mw, .ref m_ywa, .ref m_ybi, .ref m_ysi, .ref m_ynu, .ref m_ymo])), (m_ys, .inl (cI, 449, .inl ms2_7)), (m_ybi, .inl (cI, 4, .inl m_bi)), (m_ysi, .inl (cI, 4, .inl m_sq)), (m_ynu, .inl (cJ, 160, .inr (.inl m_nb))), (m_yt, .inl (cI, 7, .inl mq2_8))] ++ tl) H := hP
  have hD : va_D A ([(h0, .inr (8, [.ref qh, .ref qk, .ref qd, .int b0, .ref qa, .ref qm, .ref qs, .ref qp, .ref ql, .ref qt, .ref qz, .ref qf])), (qh, .inr (1, [.int (nI (Pa)), .ref ae, .ref al, .ref au, .ref ao, .ref ar, .ref ak, .ref aw, .ref att, .ref ass])), (al, .inl (cI, 100, .inl l2_2)), (au, .inl (cI, 100, .inl u2_3)), (ao, .inl (cI, 100, .inl d2_4)), (qz, .inl (cS, 4, .inr (.inr (.inr (.inr (xSh s0 s1 s2 s3)))))), (s0, .inr (4, [.int bt0, .int (nI (sz0)), .ref sn0])), (s1, .inr (4, [.int bt1, .int (nI (sz1)), .ref sn1])), (s2, .inr (4, [.int bt2, .int (nI (sz2)), .ref sn2])), (s3, .inr (4, [.int bt3, .int (nI (sz3)), .ref sn3])), (sn0, .inl (cJ, 40, .inr (.inl nu0))), (sn1, .inl (cJ, 40, .inr (.inl nu1))), (sn2, .inl (cJ, 40, .inr (.inl nu2))), (sn3, .inl (cJ, 40, .inr (.inl nu3))), (qf, .inl (cI, 7, .inl f2_5)), (g0, .inr (9, [.ref m_ys, .ref m_yk, .ref m_yo, .ref m_yt, .int b0, .ref m_yfa, .ref m_yfe, .int m_mL, .int m_mS, .int m_mM, .ref m_yro, .ref m_yhe, .ref m_ygr, .int m_mF, .int m_mC, .int m_mY, .ref m_yta, .int (nI (z)), .int (nI (m_mf)), .int (nI (m_mt)), .int m_mv, .int m_mw, .ref m_ywa, .ref m_ybi, .ref m_ysi, .ref m_ynu, .ref m_ymo])), (m_ys, .inl (cI, 449, .inl ms2_7)), (m_ybi, .inl (cI, 4, .inl m_bi)), (m_ysi, .inl (cI, 4, .inl m_sq)), (m_ynu, .inl (cJ, 160, .inr (.inl m_nb))), (m_yt, .inl (cI, 7, .inl mq2_8))] ++ tl) := hD
  refine lv_pop hx hb dL_law_1371 rfl ?_
  refine lv_goto (tgt := 1483) hx hb dL_law_1372 (by decide) ?_
  exact kkx _ _ _ l2_2 u2_3 d2_4 f2_5 ms2_7 mq2_8 (xt_P hP [0, 1, 2, 3, 4, 5, 6, 7, 8, 9, 10, 11, 12, 13, 14, 15, 16, 20, 17, 18, 19] rfl) (xt_D hD [0, 1, 2, 3, 4, 5, 6, 7, 8, 9, 10, 11, 12, 13, 14, 15, 16, 20, 17, 18, 19] (by decide +kernel) rfl) i_9 i_10 i_11 i_12 i_13 i_17 hS hl
set_option maxHeartbeats 4000000 in
set_option maxRecDepth 100000 in
theorem law_38 {p : Program} {e : Env} {s : State} {m : MethodId} {below : List Frame} {meth : Method} {c : Code} (l : Launch) (D : va_G) (cI cJ cZ cS : ClassId) (ta : Nat) (sa sv : Nat → Nat) {b L : Nat} {xs : Nat → Int32} {A : Nat → Prop} (hL : L ≤ 3072) (hF : CallFix p m c cL_law 4 s #[Value.ref b] (Cond.initialized RX8 :: wsU) RL) (hr : meth.sig.returnType = ret) (hlk : meth.locks = false) (hK : va_K D vwCl (xT cI cJ cZ cS) s) (hN : XN sa s) (hX : va_X b L xs s s.heap) (hbl : b < s.heap.size) (hA : ∀ q : Nat, s.heap.size ≤ q → A q) (hbA : ¬ A b) (hAs : ∀ q, A q → s.heap.size ≤ q) (hZ : ST ta sa sv A s s.heap) (h0 g0 i : Nat) (hi : i + 6 ≤ L) (qh : Nat) (qk : Nat) (qd : Nat) (b0 : Int32) (qa : Nat) (qm : Nat) (qs : Nat) (qp : Nat) (ql : Nat) (qt : Nat) (qz : Nat) (qf : Nat) (Pa : Nat) (ae : Nat) (al : Nat) (au : Nat) (ao : Nat) (ar : Nat) (ak : Nat) (aw : Nat) (att : Nat) (ass : Nat) (fal : Nat → Int32) (fao : Nat → Int32) (Qa : Nat) (an : Nat) (La : Nat → Int32) (s0 : Nat) (s1 : Nat) (s2 : Nat) (s3 : Nat) (bt0 : Int32) (sz0 : Nat) (sn0 : Nat) (bt1 : Int32) (sz1 : Nat) (sn1 : Nat) (bt2 : Int32) (sz2 : Nat) (sn2 : Nat) (bt3 : Int32) (sz3 : Nat) (sn3 : Nat) (nu0 : Nat → Int64) (nu1 : Nat → Int64) (nu2 : Nat → Int64) (nu3 : Nat → Int64) (ff : Nat → Int32) (m_ys : Nat) (m_yk : Nat) (m_yo : Nat) (m_yt : Nat) (m_yfa : Nat) (m_yfe : Nat) (m_mL : Int32) (m_mS : Int32) (m_mM : Int32) (m_yro : Nat) (m_yhe : Nat) (m_ygr : Nat) (m_mF : Int32) (m_mC : Int32) (m_mY : Int32) (m_yta : Nat) (z : Nat) (m_mf : Nat) (m_mt : Nat) (m_mv : Int32) (m_mw : Int32) (m_ywa : Nat) (m_ybi : Nat) (m_ysi : Nat) (m_ynu : Nat) (m_ymo : Nat) (m_ms : Nat → Int32) (m_mq : Nat → Int32) (m_fa : Nat → Int32) (m_fe : Nat → Int32) (m_bi : Nat → Int32) (m_sq : Nat → Int32) (m_nb : Nat → Int64) (m_P : Nat) (m_Rn : Nat) (m_Wn : Nat) {tl : va_W} {H : Heap} {locs : List Loc} {ls : Array Slot} (hP : va_P D vwCl ([(h0, .inr (8, [.ref qh, .ref qk, .ref qd, .int b0, .ref qa, .ref qm, .ref qs, .ref qp, .ref ql, .ref qt, .ref qz, .ref qf])), (qh, .inr (1, [.int (nI (Pa)), .ref ae, .ref al, .ref au, .ref ao, .ref ar, .ref ak, .ref aw, .ref att, .ref ass])), (al, .inl (cI, 100, .inl fal)), (ao, .inl (cI, 100, .inl fao)), (qa, .inr (0, [.int (nI (Qa)), .ref an])), (an, .inl (cI, 100, .inl La)), (qz, .inl (cS, 4, .inr (.inr (.inr (.inr (xSh s0 s1 s2 s3)))))), (s0, .inr (4, [.int bt0, .int (nI (sz0)), .ref sn0])), (s1, .inr (4, [.int bt1, .int (nI (sz1)), .ref sn1])), (s2, .inr (4, [.int bt2, .int (nI (sz2)), .ref sn2])), (s3, .inr (4, [.int bt3, .int (nI (sz3)), .ref sn3])), (sn0, .inl (cJ, 40, .inr (.inl nu0))), (sn1, .inl (cJ, 40, .inr (.inl nu1))), (sn2, .inl (cJ, 40, .inr (.inl nu2))), (sn3, .inl (cJ, 40, .inr (.inl nu3))), (qf, .inl (cI, 7, .inl ff)), (g0, .inr (9, [.ref m_ys, .ref m_yk, .ref m_yo, .ref m_yt, .int b0, .ref m_yfa, .ref m_yfe, .int m_mL, .int m_mS, .int m_mM, .ref m_yro, .ref m_yhe, .ref m_ygr, .int m_mF, .int m_mC, .int m_mY, .ref m_yta, .int (nI (z)), .int (nI (m_mf)), .int (nI (m_mt)), .int m_mv, .int m_mw, .ref m_ywa, .ref m_ybi, .ref m_ysi, .ref m_ynu, .ref m_ymo])), (m_ys, .inl (cI, 449, .inl m_ms)), (m_yt, .inl (cI, 7, .inl m_mq)), (m_yfa, .inl (cI, 100, .inl m_fa)), (m_yfe, .inl (cI, 100, .inl m_fe)), (m_ybi, .inl (cI, 4, .inl m_bi)), (m_ysi, .inl (cI, 4, .inl m_sq)), (m_ynu, .inl (cJ, 160, .inr (.inl m_nb)))] ++ tl) H) (hD : va_D A ([(h0, .inr (8, [.ref qh, .ref qk, .ref qd, .int b0, .ref qa, .ref qm, .ref qs, .ref qp, .ref ql, .ref qt, .ref qz, .ref qf])), (qh, .inr (1, [.int (nI (Pa)), .ref ae, .ref al, .ref au, .ref ao, .ref ar, .ref ak, .ref aw, .ref att, .ref ass])), (al, .inl (cI, 100, .inl fal)), (ao, .inl (cI, 100, .inl fao)), (qa, .inr (0, [.int (nI (Qa)), .ref an])), (an, .inl (cI, 100, .inl La)), (qz, .inl (cS, 4, .inr (.inr (.inr (.inr (xSh s0 s1 s2 s3)))))), (s0, .inr (4, [.int bt0, .int (nI (sz0)), .ref sn0])), (s1, .inr (4, [.int bt1, .int (nI (sz1)), .ref sn1])), (s2, .inr (4, [.int bt2, .int (nI (sz2)), .ref sn2])), (s3, .inr (4, [.int bt3, .int (nI (sz3)), .ref sn3])), (sn0, .inl (cJ, 40, .inr (.inl nu0))), (sn1, .inl (cJ, 40, .inr (.inl nu1))), (sn2, .inl (cJ, 40, .inr (.inl nu2))), (sn3, .inl (cJ, 40, .inr (.inl nu3))), (qf, .inl (cI, 7, .inl ff)), (g0, .inr (9, [.ref m_ys, .ref m_yk, .ref m_yo, .ref m_yt, .int b0, .ref m_yfa, .ref m_yfe, .int m_mL, .int m_mS, .int m_mM, .ref m_yro, .ref m_yhe, .ref m_ygr, .int m_mF, .int m_mC, .int m_mY, .ref m_yta, .int (nI (z)), .int (nI (m_mf)), .int (nI (m_mt)), .int m_mv, .int m_mw, .ref m_ywa, .ref m_ybi, .ref m_ysi, .ref m_ynu, .ref m_ymo])), (m_ys, .inl (cI, 449, .inl m_ms)), (m_yt, .inl (cI, 7, .inl m_mq)), (m_yfa, .inl (cI, 100, .inl m_fa)), (m_yfe, .inl (cI, 100, .inl m_fe)), (m_ybi, .inl (cI, 4, .inl m_bi)), (m_ysi, .inl (cI, 4, .inl m_sq)), (m_ynu, .inl (cJ, 160, .inr (.inl m_nb)))] ++ tl)) (hP0 : Pa ≤ 10) (hQa : Qa ≤ 10) (hz : z ≤ 120) (hsz0 : sz0 ≤ 40) (hsz1 : sz1 ≤ 40) (hsz2 : sz2 ≤ 40) (hsz3 : sz3 ≤ 40) (r_b0 : m_bi 0 = bt0) (r_z0 : m_sq 0 = nI sz0) (r_n0 : ∀ j, j < 40 → m_nb (0 + j) = nu0 j) (r_b1 : m_bi 1 = bt1) (r_z1 : m_sq 1 = nI sz1) (r_n1 : ∀ j, j < 40 → m_nb (40 + j) = nu1 j) (r_b2 : m_bi 2 = bt2) (r_z2 : m_sq 2 = nI sz2) (r_n2 : ∀ j, j < 40 → m_nb (80 + j) = nu2 j) (r_b3 : m_bi 3 = bt3) (r_z3 : m_sq 3 = nI sz3) (r_n3 : ∀ j, j < 40 → m_nb (120 + j) = nu3 j) (m_hs0 : m_ms 0 = nI m_P) (m_hs1 : m_ms 1 = nI m_Rn) (m_hs2 : m_ms 2 = nI m_Wn) (m_hsS : SI m_ms) (m_hsM : MI m_ms) (m_hsp : m_P ≤ 10) (m_hsr : m_Rn ≤ 8) (m_hsw : m_Wn ≤ 8) (m_hsR : RI m_Rn m_ms) (m_hsq : BA 4 41 m_sq) (hS : va_S A s.heap H locs) (hl : lv_has ls 4 [(3, .int (nI i)), (2, .ref g0), (1, .ref h0), (0, .ref b)]) (kkx : ∀ (H : Heap) (locs : List Loc) (ls : Array Slot) (Qa_n : Nat) (La_n : Nat → Int32) (ff_n : Nat → Int32) (m_mL_n : Int32) (m_mq_n : Nat → Int32) (m_fa_n : Nat → Int32) (m_fe_n : Nat → Int32), va_P D vwCl ([(h0, .inr (8, [.ref qh, .ref qk, .ref qd, .int b0, .ref qa, .ref qm, .ref qs, .ref qp, .ref ql, .ref qt, .ref qz, .ref qf])), (qh, .inr (1, [.int (nI (Pa)), .ref ae, .ref al, .ref au, .ref ao, .ref ar, .ref ak, .ref aw, .ref att, .ref ass])), (al, .inl (cI, 100, .inl fal)), (ao, .inl (cI, 100, .inl fao)), (qa, .inr (0, [.int (nI (Qa_n)), .ref an])), (an, .inl (cI, 100, .inl La_n)), (qz, .inl (cS, 4, .inr (.inr (.inr (.inr (xSh s0 s1 s2 s3)))))), (s0, .inr (4, [.int bt0, .int (nI (sz0)), .ref sn0])), (s1, .inr (4, [.int bt1, .int (nI (sz1)), .ref sn1])), (s2, .inr (4, [.int bt2, .int (nI (sz2)), .ref sn2])), (s3, .inr (4, [.int bt3, .int (nI (sz3)), .ref sn3])), (sn0, .inl (cJ, 40, .inr (.inl nu0))), (sn1, .inl (cJ, 40, .inr (.inl nu1))), (sn2, .inl (cJ, 40, .inr (.inl nu2))), (sn3, .inl (cJ, 40, .inr (.inl nu3))), (qf, .inl (cI, 7, .inl ff_n)), (g0, .inr (9, [.ref m_ys, .ref m_yk, .ref m_yo, .ref m_yt, .int b0, .ref m_yfa, .ref m_yfe, .int m_mL_n, .int m_mS, .int m_mM, .ref m_yro, .ref m_yhe, .ref m_ygr, .int m_mF, .int m_mC, .int m_mY, .ref m_yta, .int (nI (z)), .int (nI (m_mf)), .int (nI (m_mt)), .int m_mv, .int m_mw, .ref m_ywa, .ref m_ybi, .ref m_ysi, .ref m_ynu, .ref m_ymo])), (m_ys, .inl (cI, 449, .inl m_ms)), (m_yt, .inl (cI, 7, .inl m_mq_n)), (m_yfa, .inl (cI, 100, .inl m_fa_n)), (m_yfe, .inl (cI, 100, .inl m_fe_n)), (m_ybi, .inl (cI, 4, .inl m_bi)), (m_ysi, .inl (cI, 4, .inl m_sq)), (m_ynu, .inl (cJ, 160, .inr (.inl m_nb)))] ++ tl) H → va_D A ([(h0, .inr (8, [.ref qh, .ref qk, .ref qd, .int b0, .ref qa, .ref qm, .ref qs, .ref qp, .ref ql, .ref qt, .ref qz, .ref qf])), (qh, .inr (1, [.int (nI (Pa)), .ref ae, .ref al, .ref au, .ref ao, .ref ar, .ref ak, .ref aw, .ref att, .ref ass])), (al, .inl (cI, 100, .inl fal)), (ao, .inl (cI, 100, .inl fao)), (qa, .inr (0, [.int (nI (Qa_n)), .ref an])), (an, .inl (cI, 100, .inl La_n)), (qz, .inl (cS, 4, .inr (.inr (.inr (.inr (xSh s0 s1 s2 s3)))))), (s0, .inr (4, [.int bt0, .int (nI (sz0)), .ref sn0])), (s1, .inr (4, [.int bt1, .int (nI (sz1)), .ref sn1])), (s2, .inr (4, [.int bt2, .int (nI (sz2)), .ref sn2])), (s3, .inr (4, [.int bt3, .int (nI (sz3)), .ref sn3])), (sn0, .inl (cJ, 40, .inr (.inl nu0))), (sn1, .inl (cJ, 40, .inr (.inl nu1))), (sn2, .inl (cJ, 40, .inr (.inl nu2))), (sn3, .inl (cJ, 40, .inr (.inl nu3))), (qf, .inl (cI, 7, .inl ff_n)), (g0, .inr (9, [.ref m_ys, .ref m_yk, .ref m_yo, .ref m_yt, .int b0, .ref m_yfa, .ref m_yfe, .int m_mL_n, .int m_mS, .int m_mM, .ref m_yro, .ref m_yhe, .ref m_ygr, .int m_mF, .int m_mC, .int m_mY, .ref m_yta, .int (nI (z)), .int (nI (m_mf)), .int (nI (m_mt)), .int m_mv, .int m_mw, .ref m_ywa, .ref m_ybi, .ref m_ysi, .ref m_ynu, .ref m_ymo])), (m_ys, .inl (cI, 449, .inl m_ms)), (m_yt, .inl (cI, 7, .inl m_mq_n)), (m_yfa, .inl (cI, 100, .inl m_fa_n)), (m_yfe, .inl (cI, 100, .inl m_fe_n)), (m_ybi, .inl (cI, 4, .inl m_bi)), (m_ysi, .inl (cI, 4, .inl m_sq)), (m_ynu, .inl (cJ, 160, .inr (.inl m_nb)))] ++ tl) → (Qa_n ≤ 10) → va_S A s.heap H locs → lv_has ls 4 [(3, .int (nI i)), (2, .ref g0), (1, .ref h0), (0, .ref b)] → W p l e room_1 s m #[Value.ref b] below meth c H locs 82 4273 (lw_Z below #[Value.ref b] s) (F0 m 1483 ls [])) : W p l e room_1 s m #[Value.ref b] below meth c H locs 82 4273 (lw_Z below #[Value.ref b] s) (F0 m 1375 ls []) := by
  have hx := hF.1
  have hb := hF.2.1
  have hml := hF.2.2.1
  have hown := hF.2.2.2.1
  have hu : ∀ w ∈ wsU, w.before _ s = true := fun w h => hF.2.2.2.2 w (List.mem_cons_of_mem _ h)
  refine lv_aload_n hx hb dL_law_1375 rfl (lv_at hl 2 rfl) ?_
  refine lv_aload_n hx hb dL_law_1376 rfl (lv_at hl 3 rfl) ?_
  refine lv_iload_n hx hb dL_law_1377 rfl (lv_at hl 0 rfl) ?_
  refine lv_iconst (v := 1) hx hb dL_law_1378 (by decide) ?_
  refine lv_iadd hx hb dL_law_1379 ?_
  refine xl_i (y := nI (i + 1)) (nI_add i 1) ?_
  refine va_sld hx hb hX hbl hbA hS (x_si (k := 1) (by decide) hi hL) dL_law_1380 ?_
  refine xl_i (y := xs (i + 1)) (congrArg xs (x_sc (k := 1) (by decide) hi hL)) ?_
  refine xc_ViT (wr := [(g0, .inr (9, [.ref m_ys, .ref m_yk, .ref m_yo, .ref m_yt, .int b0, .ref m_yfa, .ref m_yfe, .int m_mL, .int m_mS, .int m_mM, .ref m_yro, .ref m_yhe, .ref m_ygr, .int m_mF, .int m_mC, .int m_mY, .ref m_yta, .int (nI (z)), .int (nI (m_mf)), .int (nI (m_mt)), .int m_mv, .int m_mw, .ref m_ywa, .ref m_ybi, .ref m_ysi, .ref m_ynu, .ref m_ymo])), (m_ys, .inl (cI, 449, .inl m_ms)), (m_yt, .inl (cI, 7, .inl m_mq)), (m_yfa, .inl (cI, 100, .inl m_fa)), (m_yfe, .inl (cI, 100, .inl m_fe)), (m_ybi, .inl (cI, 4, .inl m_bi)), (m_ysi, .inl (cI, 4, .inl m_sq)), (m_ynu, .inl (cJ, 160, .inr (.inl m_nb)))]) hF (c_X8_read l D cI cJ cZ cS ta sa sv H.size h0 qh qk qd b0 qa qm qs qp ql qt qz qf Pa ae al au ao ar ak aw att ass fal fao Qa an La s0 s1 s2 s3 bt0 sz0 sn0 bt1 sz1 sn1 bt2 sz2 sn2 bt3 sz3 sn3 nu0 nu1 nu2 nu3 ff (xs (i + 1)) hP0 hQa hsz0 hsz1 hsz2 hsz3) kv_L_175 ⟨rfl, rfl, Nat.le_of_ble_eq_true rfl, Nat.le_of_ble_eq_true rfl⟩ ⟨Nat.le_of_ble_eq_true rfl, Nat.le_of_ble_eq_true rfl⟩ hK hN hZ hP hD hS hA [0, 1, 2, 3, 4, 5, 6, 7, 8, 9, 10, 11, 12, 13, 14, 15] [16, 17, 18, 19, 20, 21, 22, 23] rfl rfl rfl rfl (by decide) 0 rfl rfl rfl rfl hl.1 rfl (Nat.le_of_ble_eq_true rfl) dL_law_1381 (fun r_1 u_r_1 H locs hw_r_1 hP hD hS => ?_)
  obtain ⟨Q2_2, L2_3, f2_4⟩ := u_r_1
  try dsimp only at hw_r_1
  obtain ⟨hw_r_1, i_5⟩ := hw_r_1
  have hP : va_P D vwCl ([(g0, .inr (9, [.ref m_ys, .ref m_yk, .ref m_yo, .ref m_yt, .int b0, .ref m_yfa, .ref m_yfe, .int m_mL, .int m_mS, .int m_mM, .ref m_yro, .ref m_yhe, .ref m_ygr, .int m_mF, .int m_mC, .int m_mY, .ref m_yta, .int (nI (z)), .int (nI (m_mf)), .int (nI (m_mt)), .int m_mv, .int m_mw, .ref m_ywa, .ref m_ybi, .ref m_ysi, .ref m_ynu, .ref m_ymo])), (m_ys, .inl (cI, 449, .inl m_ms)), (m_yt, .inl (cI, 7, .inl m_mq)), (m_yfa, .inl (cI, 100, .inl m_fa)), (m_yfe, .inl (cI, 100, .inl m_fe)), (m_ybi, .inl (cI, 4, .inl m_bi)), (m_ysi, .inl (cI, 4, .inl m_sq)), (m_ynu, .inl (cJ, 160, .inr (.inl m_nb))), (h0, .inr (8, [.ref qh, .ref qk, .ref qd, .int b0, .ref qa, .ref qm, .ref qs, .ref qp, .ref ql, .ref qt, .ref qz, .ref qf])), (qh, .inr (1, [.int (nI (Pa)), .ref ae, .ref al, .ref au, .ref ao, .ref ar, .ref ak, .ref aw, .ref att, .ref ass])), (al, .inl (cI, 100, .inl fal)), (ao, .inl (cI, 100, .inl fao)), (qa, .inr (0, [.int (nI (Q2_2)), .ref an])), (an, .inl (cI, 100, .inl L2_3)), (qz, .inl (cS, 4, .inr (.inr (.inr (.inr (xSh s0 s1 s2 s3)))))), (s0, .inr (4, [.int bt0, .int (nI (sz0)), .ref sn0])), (s1, .inr (4, [.int bt1, .int (nI (sz1)), .ref sn1])), (s2, .inr (4, [.int bt2, .int (nI (sz2)), .ref sn2])), (s3, .inr (4, [.int bt3, .int (nI (sz3)), .ref sn3])), (sn0, .inl (cJ, 40, .inr (.inl nu0))), (sn1, .inl (cJ, 40, .inr (.inl nu1))), (sn2, .inl (cJ, 40, .inr (.inl nu2))), (sn3, .inl (cJ, 40, .inr (.inl nu3))), (qf, .inl (cI, 7, .inl f2_4))] ++ tl) H := hP
  have hD : va_D A ([(g0, .inr (9, [.ref m_ys, .ref m_yk, .ref m_yo, .ref m_yt, .int b0, .ref m_yfa, .ref m_yfe, .int m_mL, .int m_mS, .int m_mM, .ref m_yro, .ref m_yhe, .ref m_ygr, .int m_mF, .int m_mC, .int m_mY, .ref m_yta, .int (nI (z)), .int (nI (m_mf)), .int (nI (m_mt)), .int m_mv, .int m_mw, .ref m_ywa, .ref m_ybi, .ref m_ysi, .ref m_ynu, .ref m_ymo])), (m_ys, .inl (cI, 449, .inl m_ms)), (m_yt, .inl (cI, 7, .inl m_mq)), (m_yfa, .inl (cI, 100, .inl m_fa)), (m_yfe, .inl (cI, 100, .inl m_fe)), (m_ybi, .inl (cI, 4, .inl m_bi)), (m_ysi, .inl (cI, 4, .inl m_sq)), (m_ynu, .inl (cJ, 160, .inr (.inl m_nb))), (h0, .inr (8, [.ref qh, .ref qk, .ref qd, .int b0, .ref qa, .ref qm, .ref qs, .ref qp, .ref ql, .ref qt, .ref qz, .ref qf])), (qh, .inr (1, [.int (nI (Pa)), .ref ae, .ref al, .ref au, .ref ao, .ref ar, .ref ak, .ref aw, .ref att, .ref ass])), (al, .inl (cI, 100, .inl fal)), (ao, .inl (cI, 100, .inl fao)), (qa, .inr (0, [.int (nI (Q2_2)), .ref an])), (an, .inl (cI, 100, .inl L2_3)), (qz, .inl (cS, 4, .inr (.inr (.inr (.inr (xSh s0 s1 s2 s3)))))), (s0, .inr (4, [.int bt0, .int (nI (sz0)), .ref sn0])), (s1, .inr (4, [.int bt1, .int (nI (sz1)), .ref sn1])), (s2, .inr (4, [.int bt2, .int (nI (sz2)), .ref sn2])), (s3, .inr (4, [.int bt3, .int (nI (sz3)), .ref sn3])), (sn0, .inl (cJ, 40, .inr (.inl nu0))), (sn1, .inl (cJ, 40, .inr (.inl nu1))), (sn2, .inl (cJ, 40, .inr (.inl nu2))), (sn3, .inl (cJ, 40, .inr (.inl nu3))), (qf, .inl (cI, 7, .inl f2_4))] ++ tl) := hD
  refine lv_pop hx hb dL_law_1384 rfl ?_
  refine lv_aload_n hx hb dL_law_1385 rfl (lv_at hl 1 rfl) ?_
  refine lv_aload_n hx hb dL_law_1386 rfl (lv_at hl 3 rfl) ?_
  refine lv_iload_n hx hb dL_law_1387 rfl (lv_at hl 0 rfl) ?_
  refine lv_iconst (v := 1) hx hb dL_law_1388 (by decide) ?_
  refine lv_iadd hx hb dL_law_1389 ?_
  refine xl_i (y := nI (i + 1)) (nI_add i 1) ?_
  refine va_sld hx hb hX hbl hbA hS (x_si (k := 1) (by decide) hi hL) dL_law_1390 ?_
  refine xl_i (y := xs (i + 1)) (congrArg xs (x_sc (k := 1) (by decide) hi hL)) ?_
  refine xc_ViT (wr := [(h0, .inr (8, [.ref qh, .ref qk, .ref qd, .int b0, .ref qa, .ref qm, .ref qs, .ref qp, .ref ql, .ref qt, .ref qz, .ref qf])), (qh, .inr (1, [.int (nI (Pa)), .ref ae, .ref al, .ref au, .ref ao, .ref ar, .ref ak, .ref aw, .ref att, .ref ass])), (al, .inl (cI, 100, .inl fal)), (ao, .inl (cI, 100, .inl fao)), (qa, .inr (0, [.int (nI (Q2_2)), .ref an])), (an, .inl (cI, 100, .inl L2_3)), (qz, .inl (cS, 4, .inr (.inr (.inr (.inr (xSh s0 s1 s2 s3)))))), (s0, .inr (4, [.int bt0, .int (nI (sz0)), .ref sn0])), (s1, .inr (4, [.int bt1, .int (nI (sz1)), .ref sn1])), (s2, .inr (4, [.int bt2, .int (nI (sz2)), .ref sn2])), (s3, .inr (4, [.int bt3, .int (nI (sz3)), .ref sn3])), (sn0, .inl (cJ, 40, .inr (.inl nu0))), (sn1, .inl (cJ, 40, .inr (.inl nu1))), (sn2, .inl (cJ, 40, .inr (.inl nu2))), (sn3, .inl (cJ, 40, .inr (.inl nu3))), (qf, .inl (cI, 7, .inl f2_4))]) hF (c_X9_read l D cI cJ cZ cS ta sa sv H.size g0 m_ys m_yk m_yo m_yt b0 m_yfa m_yfe m_mL m_mS m_mM m_yro m_yhe m_ygr m_mF m_mC m_mY m_yta z m_mf m_mt m_mv m_mw m_ywa m_ybi m_ysi m_ynu m_ymo m_ms m_fa m_fe m_bi m_sq m_nb m_mq m_P m_Rn m_Wn (xs (i + 1)) m_hsq m_hs0 m_hs1 m_hs2 m_hsS m_hsM m_hsp m_hsr m_hsw m_hsR) kv_L_178 ⟨rfl, rfl, Nat.le_of_ble_eq_true rfl, Nat.le_of_ble_eq_true rfl⟩ ⟨Nat.le_of_ble_eq_true rfl, Nat.le_of_ble_eq_true rfl⟩ hK hN hZ hP hD hS hA [0, 1, 3, 4, 5, 6, 7, 2] [8, 9, 10, 11, 12, 13, 14, 15, 16, 17, 18, 19, 20, 21, 22, 23] rfl rfl rfl rfl (by decide) 0 rfl rfl rfl rfl hl.1 rfl (Nat.le_of_ble_eq_true rfl) dL_law_1391 (fun r_6 u_r_6 H locs hw_r_6 hP hD hS => ?_)
  obtain ⟨mL2_7, fa2_8, fe2_9, mq2_10⟩ := u_r_6
  try dsimp only at hw_r_6
  have hP : va_P D vwCl ([(h0, .inr (8, [.ref qh, .ref qk, .ref qd, .int b0, .ref qa, .ref qm, .ref qs, .ref qp, .ref ql, .ref qt, .ref qz, .ref qf])), (qh, .inr (1, [.int (nI (Pa)), .ref ae, .ref al, .ref au, .ref ao, .ref ar, .ref ak, .ref aw, .ref att, .ref ass])), (al, .inl (cI, 100, .inl fal)), (ao, .inl (cI, 100, .inl fao)), (qa, .inr (0, [.int (nI (Q2_2)), .ref an])), (an, .inl (cI, 100, .inl L2_3)), (qz, .inl (cS, 4, .inr (.inr (.inr (.inr (xSh s0 s1 s2 s3)))))), (s0, .inr (4, [.int bt0, .int (nI (sz0)), .ref sn0])), (s1, .inr (4, [.int bt1, .int (nI (sz1)), .ref sn1])), (s2, .inr (4, [.int bt2, .int (nI (sz2)), .ref sn2])), (s3, .inr (4, [.int bt3, .int (nI (sz3)), .ref sn3])), (sn0, .inl (cJ, 40, .inr (.inl nu0))), (sn1, .inl (cJ, 40, .inr (.inl nu1))), (sn2, .inl (cJ, 40, .inr (.inl nu2))), (sn3, .inl (cJ, 40, .inr (.inl nu3))), (qf, .inl (cI, 7, .inl f2_4)), (g0, .inr (9, [.ref m_ys, .ref m_yk, .ref m_yo, .ref m_yt, .int b0, .ref m_yfa, .ref m_yfe, .int mL2_7, .int m_mS, .int m_mM, .ref m_yro, .ref m_yhe, .ref m_ygr, .int m_mF, .int m_mC, .int m_mY, .ref m_yta, .int (nI (z)), .int (nI (m_mf)), .int (nI (m_mt)), .int m_mv, .int m_mw, .ref m_ywa, .ref m_ybi, .ref m_ysi, .ref m_ynu, .ref m_ymo])), (m_ys, .inl (cI, 449, .inl m_ms)), (m_yfa, .inl (cI, 100, .inl fa2_8)), (m_yfe, .inl (cI, 100, .inl fe2_9)), (m_ybi, .inl (cI, 4, .inl m_bi)), (m_ysi, .inl (cI, 4, .inl m_sq)), (m_ynu, .inl (cJ, 160, .inr (.inl m_nb))), (m_yt, .inl (cI, 7, .inl mq2_10))] ++ tl) H := hP
  have hD : va_D A ([(h0, .inr (8, [.ref qh, .ref qk, .ref qd, .int b0, .ref qa, .ref qm, .ref qs, .ref qp, .ref ql, .ref qt, .ref qz, .ref qf])), (qh, .inr (1, [.int (nI (Pa)), .ref ae, .ref al, .ref au, .ref ao, .ref ar, .ref ak, .ref aw, .ref att, .ref ass])), (al, .inl (cI, 100, .inl fal)), (ao, .inl (cI, 100, .inl fao)), (qa, .inr (0, [.int (nI (Q2_2)), .ref an])), (an, .inl (cI, 100, .inl L2_3)), (qz, .inl (cS, 4, .inr (.inr (.inr (.inr (xSh s0 s1 s2 s3)))))), (s0, .inr (4, [.int bt0, .int (nI (sz0)), .ref sn0])), (s1, .inr (4, [.int bt1, .int (nI (sz1)), .ref sn1])), (s2, .inr (4, [.int bt2, .int (nI (sz2)), .ref sn2])), (s3, .inr (4, [.int bt3, .int (nI (sz3)), .ref sn3])), (sn0, .inl (cJ, 40, .inr (.inl nu0))), (sn1, .inl (cJ, 40, .inr (.inl nu1))), (sn2, .inl (cJ, 40, .inr (.inl nu2))), (sn3, .inl (cJ, 40, .inr (.inl nu3))), (qf, .inl (cI, 7, .inl f2_4)), (g0, .inr (9, [.ref m_ys, .ref m_yk, .ref m_yo, .ref m_yt, .int b0, .ref m_yfa, .ref m_yfe, .int mL2_7, .int m_mS, .int m_mM, .ref m_yro, .ref m_yhe, .ref m_ygr, .int m_mF, .int m_mC, .int m_mY, .ref m_yta, .int (nI (z)), .int (nI (m_mf)), .int (nI (m_mt)), .int m_mv, .int m_mw, .ref m_ywa, .ref m_ybi, .ref m_ysi, .ref m_ynu, .ref m_ymo])), (m_ys, .inl (cI, 449, .inl m_ms)), (m_yfa, .inl (cI, 100, .inl fa2_8)), (m_yfe, .inl (cI, 100, .inl fe2_9)), (m_ybi, .inl (cI, 4, .inl m_bi)), (m_ysi, .inl (cI, 4, .inl m_sq)), (m_ynu, .inl (cJ, 160, .inr (.inl m_nb))), (m_yt, .inl (cI, 7, .inl mq2_10))] ++ tl) := hD
  refine lv_pop hx hb dL_law_1394 rfl ?_
  refine lv_goto (tgt := 1483) hx hb dL_law_1395 (by decide) ?_
  exact kkx _ _ _ Q2_2 L2_3 f2_4 mL2_7 mq2_10 fa2_8 fe2_9 (xt_P hP [0, 1, 2, 3, 4, 5, 6, 7, 8, 9, 10, 11, 12, 13, 14, 15, 16, 17, 23, 18, 19, 20, 21, 22] rfl) (xt_D hD [0, 1, 2, 3, 4, 5, 6, 7, 8, 9, 10, 11, 12, 13, 14, 15, 16, 17, 23, 18, 19, 20, 21, 22] (by decide +kernel) rfl) i_5 hS hl
set_option maxHeartbeats 4000000 in
set_option maxRecDepth 100000 in
theorem law_39 {p : Program} {e : Env} {s : State} {m : MethodId} {below : List Frame} {meth : Method} {c : Code} (l : Launch) (D : va_G) (cI cJ cZ cS : ClassId) (ta : Nat) (sa sv : Nat → Nat) {b L : Nat} {xs : Nat → Int32} {A : Nat → Prop} (hL : L ≤ 3072) (hF : CallFix p m c cL_law 4 s #[Value.ref b] (Cond.initialized RX8 :: wsU) RL) (hr : meth.sig.returnType = ret) (hlk : meth.locks = false) (hK : va_K D vwCl (xT cI cJ cZ cS) s) (hN : XN sa s) (hX : va_X b L xs s s.heap) (hbl : b < s.heap.size) (hA : ∀ q : Nat, s.heap.size ≤ q → A q) (hbA : ¬ A b) (hAs : ∀ q, A q → s.heap.size ≤ q) (hZ : ST ta sa sv A s s.heap) (h0 g0 i : Nat) (hi : i + 6 ≤ L) (qh : Nat) (qk : Nat) (qd : Nat) (b0 : Int32) (qa : Nat) (qm : Nat) (qs : Nat) (qp : Nat) (ql : Nat) (qt : Nat) (qz : Nat) (qf : Nat) (Pa : Nat) (ae : Nat) (al : Nat) (au : Nat) (ao : Nat) (ar : Nat) (ak : Nat) (aw : Nat) (att : Nat) (ass : Nat) (fae : Nat → Int32) (fal : Nat → Int32) (fau : Nat → Int32) (fao : Nat → Int32) (Ra : Nat) (aRn : Nat) (aRp : Nat) (farn : Nat → Int32) (farp : Nat → Int32) (fak : Nat → Int32) (Wa : Nat) (aWn : Nat) (aWp : Nat) (fawn : Nat → Int32) (fawp : Nat → Int32) (fat : Nat → Int32) (fas : Nat → Int32) (Pk : Nat) (ke : Nat) (kl : Nat) (ku : Nat) (ko : Nat) (kr : Nat) (kk : Nat) (kw : Nat) (ktt : Nat) (kss : Nat) (fke : Nat → Int32) (fkl : Nat → Int32) (fku : Nat → Int32) (fko : Nat → Int32) (Rk : Nat) (kRn : Nat) (kRp : Nat) (fkrn : Nat → Int32) (fkrp : Nat → Int32) (fkk : Nat → Int32) (Wk : Nat) (kWn : Nat) (kWp : Nat) (fkwn : Nat → Int32) (fkwp : Nat → Int32) (fkt : Nat → Int32) (fks : Nat → Int32) (m_ys : Nat) (m_yk : Nat) (m_yo : Nat) (m_yt : Nat) (m_yfa : Nat) (m_yfe : Nat) (m_mL : Int32) (m_mS : Int32) (m_mM : Int32) (m_yro : Nat) (m_yhe : Nat) (m_ygr : Nat) (m_mF : Int32) (m_mC : Int32) (m_mY : Int32) (m_yta : Nat) (z : Nat) (m_mf : Nat) (m_mt : Nat) (m_mv : Int32) (m_mw : Int32) (m_ywa : Nat) (m_ybi : Nat) (m_ysi : Nat) (m_ynu : Nat) (m_ymo : Nat) (m_ms : Nat → Int32) (m_ks : Nat → Int32) (m_P : Nat) (m_Rn : Nat) (m_Wn : Nat) (m_Pk : Nat) (m_Rk : Nat) (m_Wk : Nat) {tl : va_W} {H : Heap} {locs : List Loc} {ls : Array Slot} (hP : va_P D vwCl ([(h0, .inr (8, [.ref qh, .ref qk, .ref qd, .int b0, .ref qa, .ref qm, .ref qs, .ref qp, .ref ql, .ref qt, .ref qz, .ref qf])), (qh, .inr (1, [.int (nI (Pa)), .ref ae, .ref al, .ref au, .ref ao, .ref ar, .ref ak, .ref aw, .ref att, .ref ass])), (ae, .inl (cI, 10, .inl fae)), (al, .inl (cI, 100, .inl fal)), (au, .inl (cI, 100, .inl fau)), (ao, .inl (cI, 100, .inl fao)), (ar, .inr (3, [.int (nI (Ra)), .ref aRn, .ref aRp])), (aRn, .inl (cI, 8, .inl farn)), (aRp, .inl (cI, 48, .inl farp)), (ak, .inl (cI, 8, .inl fak)), (aw, .inr (3, [.int (nI (Wa)), .ref aWn, .ref aWp])), (aWn, .inl (cI, 8, .inl fawn)), (aWp, .inl (cI, 48, .inl fawp)), (att, .inl (cI, 8, .inl fat)), (ass, .inl (cI, 8, .inl fas)), (qk, .inr (1, [.int (nI (Pk)), .ref ke, .ref kl, .ref ku, .ref ko, .ref kr, .ref kk, .ref kw, .ref ktt, .ref kss])), (ke, .inl (cI, 10, .inl fke)), (kl, .inl (cI, 100, .inl fkl)), (ku, .inl (cI, 100, .inl fku)), (ko, .inl (cI, 100, .inl fko)), (kr, .inr (3, [.int (nI (Rk)), .ref kRn, .ref kRp])), (kRn, .inl (cI, 8, .inl fkrn)), (kRp, .inl (cI, 48, .inl fkrp)), (kk, .inl (cI, 8, .inl fkk)), (kw, .inr (3, [.int (nI (Wk)), .ref kWn, .ref kWp])), (kWn, .inl (cI, 8, .inl fkwn)), (kWp, .inl (cI, 48, .inl fkwp)), (ktt, .inl (cI, 8, .inl fkt)), (kss, .inl (cI, 8, .inl fks)), (g0, .inr (9, [.ref m_ys, .ref m_yk, .ref m_yo, .ref m_yt, .int b0, .ref m_yfa, .ref m_yfe, .int m_mL, .int m_mS, .int m_mM, .ref m_yro, .ref m_yhe, .ref m_ygr, .int m_mF, .int m_mC, .int m_mY, .ref m_yta, .int (nI (z)), .int (nI (m_mf)), .int (nI (m_mt)), .int m_mv, .int m_mw, .ref m_ywa, .ref m_ybi, .ref m_ysi, .ref m_ynu, .ref m_ymo])), (m_ys, .inl (cI, 449, .inl m_ms)), (m_yk, .inl (cI, 449, .inl m_ks))] ++ tl) H) (hD : va_D A ([(h0, .inr (8, [.ref qh, .ref qk, .ref qd, .int b0, .ref qa, .ref qm, .ref qs, .ref qp, .ref ql, .ref qt, .ref qz, .ref qf])), (qh, .inr (1, [.int (nI (Pa)), .ref ae, .ref al, .ref au, .ref ao, .ref ar, .ref ak, .ref aw, .ref att, .ref ass])), (ae, .inl (cI, 10, .inl fae)), (al, .inl (cI, 100, .inl fal)), (au, .inl (cI, 100, .inl fau)), (ao, .inl (cI, 100, .inl fao)), (ar, .inr (3, [.int (nI (Ra)), .ref aRn, .ref aRp])), (aRn, .inl (cI, 8, .inl farn)), (aRp, .inl (cI, 48, .inl farp)), (ak, .inl (cI, 8, .inl fak)), (aw, .inr (3, [.int (nI (Wa)), .ref aWn, .ref aWp])), (aWn, .inl (cI, 8, .inl fawn)), (aWp, .inl (cI, 48, .inl fawp)), (att, .inl (cI, 8, .inl fat)), (ass, .inl (cI, 8, .inl fas)), (qk, .inr (1, [.int (nI (Pk)), .ref ke, .ref kl, .ref ku, .ref ko, .ref kr, .ref kk, .ref kw, .ref ktt, .ref kss])), (ke, .inl (cI, 10, .inl fke)), (kl, .inl (cI, 100, .inl fkl)), (ku, .inl (cI, 100, .inl fku)), (ko, .inl (cI, 100, .inl fko)), (kr, .inr (3, [.int (nI (Rk)), .ref kRn, .ref kRp])), (kRn, .inl (cI, 8, .inl fkrn)), (kRp, .inl (cI, 48, .inl fkrp)), (kk, .inl (cI, 8, .inl fkk)), (kw, .inr (3, [.int (nI (Wk)), .ref kWn, .ref kWp])), (kWn, .inl (cI, 8, .inl fkwn)), (kWp, .inl (cI, 48, .inl fkwp)), (ktt, .inl (cI, 8, .inl fkt)), (kss, .inl (cI, 8, .inl fks)), (g0, .inr (9, [.ref m_ys, .ref m_yk, .ref m_yo, .ref m_yt, .int b0, .ref m_yfa, .ref m_yfe, .int m_mL, .int m_mS, .int m_mM, .ref m_yro, .ref m_yhe, .ref m_ygr, .int m_mF, .int m_mC, .int m_mY, .ref m_yta, .int (nI (z)), .int (nI (m_mf)), .int (nI (m_mt)), .int m_mv, .int m_mw, .ref m_ywa, .ref m_ybi, .ref m_ysi, .ref m_ynu, .ref m_ymo])), (m_ys, .inl (cI, 449, .inl m_ms)), (m_yk, .inl (cI, 449, .inl m_ks))] ++ tl)) (hP0 : Pa ≤ 10) (hR : Ra ≤ 8) (hLLr : LL Ra farn) (hWa : Wa ≤ 8) (hLLw : LL Wa fawn) (hPk : Pk ≤ 10) (hRk : Rk ≤ 8) (hWk : Wk ≤ 8) (hLLrk : LL Rk fkrn) (hLLwk : LL Wk fkwn) (hz : z ≤ 120) (harn : BA 8 7 farn) (harp : BA 48 10 farp) (hawn : BA 8 7 fawn) (hawp : BA 48 10 fawp) (hkrn : BA 8 7 fkrn) (hkrp : BA 48 10 fkrp) (hkwn : BA 8 7 fkwn) (hkwp : BA 48 10 fkwp) (m_hs0 : m_ms 0 = nI m_P) (m_hs1 : m_ms 1 = nI m_Rn) (m_hs2 : m_ms 2 = nI m_Wn) (m_hsS : SI m_ms) (m_hsM : MI m_ms) (m_hsp : m_P ≤ 10) (m_hsr : m_Rn ≤ 8) (m_hsw : m_Wn ≤ 8) (m_hsR : RI m_Rn m_ms) (m_hk0 : m_ks 0 = nI m_Pk) (m_hk1 : m_ks 1 = nI m_Rk) (m_hk2 : m_ks 2 = nI m_Wk) (m_hkS : SI m_ks) (m_hkM : MI m_ks) (m_hkp : m_Pk ≤ 10) (m_hkr : m_Rk ≤ 8) (m_hkw : m_Wk ≤ 8) (m_hkR : RI m_Rk m_ks) (hS : va_S A s.heap H locs) (hl : lv_has ls 4 [(3, .int (nI i)), (2, .ref g0), (1, .ref h0), (0, .ref b)]) (kkx : ∀ (H : Heap) (locs : List Loc) (ls : Array Slot) (b0_n : Int32) (Pk_n : Nat) (fke_n : Nat → Int32) (fkl_n : Nat → Int32) (fku_n : Nat → Int32) (fko_n : Nat → Int32) (Rk_n : Nat) (fkrn_n : Nat → Int32) (fkrp_n : Nat → Int32) (fkk_n : Nat → Int32) (Wk_n : Nat) (fkwn_n : Nat → Int32) (fkwp_n : Nat → Int32) (fkt_n : Nat → Int32) (fks_n : Nat → Int32) (m_ks_n : Nat → Int32) (m_Pk_n : Nat) (m_Rk_n : Nat) (m_Wk_n : Nat), va_P D vwCl ([(h0, .inr (8, [.ref qh, .ref qk, .ref qd, .int b0_n, .ref qa, .ref qm, .ref qs, .ref qp, .ref ql, .ref qt, .ref qz, .ref qf])), (qh, .inr (1, [.int (nI (Pa)), .ref ae, .ref al, .ref au, .ref ao, .ref ar, .ref ak, .ref aw, .ref att, .ref ass])), (ae, .inl (cI, 10, .inl fae)), (al, .inl (cI, 100, .inl fal)), (au, .inl (cI, 100, .inl fau)), (ao, .inl (cI, 100, .inl fao)), (ar, .inr (3, [.int (nI (Ra)), .ref aRn, .ref aRp])), (aRn, .inl (cI, 8, .inl farn)), (aRp, .inl (cI, 48, .inl farp)), (ak, .inl (cI, 8, .inl fak)), (aw, .inr (3, [.int (nI (Wa)), .ref aWn, .ref aWp])), (aWn, .inl (cI, 8, .inl fawn)), (aWp, .inl (cI, 48, .inl fawp)), (att, .inl (cI, 8, .inl fat)), (ass, .inl (cI, 8, .inl fas)), (qk, .inr (1, [.int (nI (Pk_n)), .ref ke, .ref kl, .ref ku, .ref ko, .ref kr, .ref kk, .ref kw, .ref ktt, .ref kss])), (ke, .inl (cI, 10, .inl fke_n)), (kl, .inl (cI, 100, .inl fkl_n)), (ku, .inl (cI, 100, .inl fku_n)), (ko, .inl (cI, 100, .inl fko_n)), (kr, .inr (3, [.int (nI (Rk_n)), .ref kRn, .ref kRp])), (kRn, .inl (cI, 8, .inl fkrn_n)), (kRp, .inl (cI, 48, .inl fkrp_n)), (kk, .inl (cI, 8, .inl fkk_n)), (kw, .inr (3, [.int (nI (Wk_n)), .ref kWn, .ref kWp])), (kWn, .inl (cI, 8, .inl fkwn_n)), (kWp, .inl (cI, 48, .inl fkwp_n)), (ktt, .inl (cI, 8, .inl fkt_n)), (kss, .inl (cI, 8, .inl fks_n)), (g0, .inr (9, [.ref m_ys, .ref m_yk, .ref m_yo, .ref m_yt, .int b0_n, .ref m_yfa, .ref m_yfe, .int m_mL, .int m_mS, .int m_mM, .ref m_yro, .ref m_yhe, .ref m_ygr, .int m_mF, .int m_mC, .int m_mY, .ref m_yta, .int (nI (z)), .int (nI (m_mf)), .int (nI (m_mt)), .int m_mv, .int m_mw, .ref m_ywa, .ref m_ybi, .ref m_ysi, .ref m_ynu, .ref m_ymo])), (m_ys, .inl (cI, 449, .inl m_ms)), (m_yk, .inl (cI, 449, .inl m_ks_n))] ++ tl) H → va_D A ([(h0, .inr (8, [.ref qh, .ref qk, .ref qd, .int b0_n, .ref qa, .ref qm, .ref qs, .ref qp, .ref ql, .ref qt, .ref qz, .ref qf])), (qh, .inr (1, [.int (nI (Pa)), .ref ae, .ref al, .ref au, .ref ao, .ref ar, .ref ak, .ref aw, .ref att, .ref ass])), (ae, .inl (cI, 10, .inl fae)), (al, .inl (cI, 100, .inl fal)), (au, .inl (cI, 100, .inl fau)), (ao, .inl (cI, 100, .inl fao)), (ar, .inr (3, [.int (nI (Ra)), .ref aRn, .ref aRp])), (aRn, .inl (cI, 8, .inl farn)), (aRp, .inl (cI, 48, .inl farp)), (ak, .inl (cI, 8, .inl fak)), (aw, .inr (3, [.int (nI (Wa)), .ref aWn, .ref aWp])), (aWn, .inl (cI, 8, .inl fawn)), (aWp, .inl (cI, 48, .inl fawp)), (att, .inl (cI, 8, .inl fat)), (ass, .inl (cI, 8, .inl fas)), (qk, .inr (1, [.int (nI (Pk_n)), .ref ke, .ref kl, .ref ku, .ref ko, .ref kr, .ref kk, .ref kw, .ref ktt, .ref kss])), (ke, .inl (cI, 10, .inl fke_n)), (kl, .inl (cI, 100, .inl fkl_n)), (ku, .inl (cI, 100, .inl fku_n)), (ko, .inl (cI, 100, .inl fko_n)), (kr, .inr (3, [.int (nI (Rk_n)), .ref kRn, .ref kRp])), (kRn, .inl (cI, 8, .inl fkrn_n)), (kRp, .inl (cI, 48, .inl fkrp_n)), (kk, .inl (cI, 8, .inl fkk_n)), (kw, .inr (3, [.int (nI (Wk_n)), .ref kWn, .ref kWp])), (kWn, .inl (cI, 8, .inl fkwn_n)), (kWp, .inl (cI, 48, .inl fkwp_n)), (ktt, .inl (cI, 8, .inl fkt_n)), (kss, .inl (cI, 8, .inl fks_n)), (g0, .inr (9, [.ref m_ys, .ref m_yk, .ref m_yo, .ref m_yt, .int b0_n, .ref m_yfa, .ref m_yfe, .int m_mL, .int m_mS, .int m_mM, .ref m_yro, .ref m_yhe, .ref m_ygr, .int m_mF, .int m_mC, .int m_mY, .ref m_yta, .int (nI (z)), .int (nI (m_mf)), .int (nI (m_mt)), .int m_mv, .int m_mw, .ref m_ywa, .ref m_ybi, .ref m_ysi, .ref m_ynu, .ref m_ymo])), (m_ys, .inl (cI, 449, .inl m_ms)), (m_yk, .inl (cI, 449, .inl m_ks_n))] ++ tl) → (Pk_n ≤ 10) → (Rk_n ≤ 8) → (Wk_n ≤ 8) → (LL Rk_n fkrn_n) → (LL Wk_n fkwn_n) → (BA 8 7 fkrn_n) → (BA 48 10 fkrp_n) → (BA 8 7 fkwn_n) → (BA 48 10 fkwp_n) → (m_ks_n 0 = nI m_Pk_n) → (m_ks_n 1 = nI m_Rk_n) → (m_ks_n 2 = nI m_Wk_n) → (SI m_ks_n) → (MI m_ks_n) → (m_Pk_n ≤ 10) → (m_Rk_n ≤ 8) → (m_Wk_n ≤ 8) → (RI m_Rk_n m_ks_n) → va_S A s.heap H locs → lv_has ls 4 [(3, .int (nI i)), (2, .ref g0), (1, .ref h0), (0, .ref b)] → W p l e room_1 s m #[Value.ref b] below meth c H locs 82 4273 (lw_Z below #[Value.ref b] s) (F0 m 1483 ls [])) : W p l e room_1 s m #[Value.ref b] below meth c H locs 82 4273 (lw_Z below #[Value.ref b] s) (F0 m 1398 ls []) := by
  have hx := hF.1
  have hb := hF.2.1
  have hml := hF.2.2.1
  have hown := hF.2.2.2.1
  have hu : ∀ w ∈ wsU, w.before _ s = true := fun w h => hF.2.2.2.2 w (List.mem_cons_of_mem _ h)
  refine lv_aload_n hx hb dL_law_1398 rfl (lv_at hl 2 rfl) ?_
  refine xc_ViT (wr := [(g0, .inr (9, [.ref m_ys, .ref m_yk, .ref m_yo, .ref m_yt, .int b0, .ref m_yfa, .ref m_yfe, .int m_mL, .int m_mS, .int m_mM, .ref m_yro, .ref m_yhe, .ref m_ygr, .int m_mF, .int m_mC, .int m_mY, .ref m_yta, .int (nI (z)), .int (nI (m_mf)), .int (nI (m_mt)), .int m_mv, .int m_mw, .ref m_ywa, .ref m_ybi, .ref m_ysi, .ref m_ynu, .ref m_ymo])), (m_ys, .inl (cI, 449, .inl m_ms)), (m_yk, .inl (cI, 449, .inl m_ks))]) hF (c_X8_image l D cI cJ cZ cS ta sa sv H.size h0 qh qk qd b0 qa qm qs qp ql qt qz qf Pa ae al au ao ar ak aw att ass fae fal fau fao Ra aRn aRp farn farp fak Wa aWn aWp fawn fawp fat fas Pk ke kl ku ko kr kk kw ktt kss fke fkl fku fko Rk kRn kRp fkrn fkrp fkk Wk kWn kWp fkwn fkwp fkt fks hP0 hR hLLr hWa hLLw harn harp hawn hawp hkrn hkrp hkwn hkwp) kv_L_179 ⟨rfl, rfl, Nat.le_of_ble_eq_true rfl, Nat.le_of_ble_eq_true rfl⟩ ⟨Nat.le_of_ble_eq_true rfl, Nat.le_of_ble_eq_true rfl⟩ hK hN hZ hP hD hS hA [0, 1, 2, 3, 4, 5, 6, 7, 8, 9, 10, 11, 12, 13, 14, 15, 16, 17, 18, 19, 20, 21, 22, 23, 24, 25, 26, 27, 28] [29, 30, 31] rfl rfl rfl rfl (by decide) 0 rfl rfl rfl rfl hl.1 rfl (Nat.le_of_ble_eq_true rfl) dL_law_1399 (fun r_1 u_r_1 H locs hw_r_1 hP hD hS => ?_)
  obtain ⟨ye_2, yl_3, yu_4, yo_5, yrn_6, yrp_7, yk_8, ywn_9, ywp_10, yt_11, ys_12⟩ := u_r_1
  try dsimp only at hw_r_1
  obtain ⟨hw_r_1, i_13, i_14, i_15, i_16, i_17, i_18⟩ := hw_r_1
  have hP : va_P D vwCl ([(g0, .inr (9, [.ref m_ys, .ref m_yk, .ref m_yo, .ref m_yt, .int b0, .ref m_yfa, .ref m_yfe, .int m_mL, .int m_mS, .int m_mM, .ref m_yro, .ref m_yhe, .ref m_ygr, .int m_mF, .int m_mC, .int m_mY, .ref m_yta, .int (nI (z)), .int (nI (m_mf)), .int (nI (m_mt)), .int m_mv, .int m_mw, .ref m_ywa, .ref m_ybi, .ref m_ysi, .ref m_ynu, .ref m_ymo])), (m_ys, .inl (cI, 449, .inl m_ms)), (m_yk, .inl (cI, 449, .inl m_ks)), (h0, .inr (8, [.ref qh, .ref qk, .ref qd, .int 1, .ref qa, .ref qm, .ref qs, .ref qp, .ref ql, .ref qt, .ref qz, .ref qf])), (qh, .inr (1, [.int (nI (Pa)), .ref ae, .ref al, .ref au, .ref ao, .ref ar, .ref ak, .ref aw, .ref att, .ref ass])), (ae, .inl (cI, 10, .inl fae)), (al, .inl (cI, 100, .inl fal)), (au, .inl (cI, 100, .inl fau)), (ao, .inl (cI, 100, .inl fao)), (ar, .inr (3, [.int (nI (Ra)), .ref aRn, .ref aRp])), (aRn, .inl (cI, 8, .inl farn)), (aRp, .inl (cI, 48, .inl farp)), (ak, .inl (cI, 8, .inl fak)), (aw, .inr (3, [.int (nI (Wa)), .ref aWn, .ref aWp])), (aWn, .inl (cI, 8, .inl fawn)), (aWp, .inl (cI, 48, .inl fawp)), (att, .inl (cI, 8, .inl fat)), (ass, .inl (cI, 8, .inl fas)), (qk, .inr (1, [.int (nI (Pa)), .ref ke, .ref kl, .ref ku, .ref ko, .ref kr, .ref kk, .ref kw, .ref ktt, .ref kss])), (ke, .inl (cI, 10, .inl ye_2)), (kl, .inl (cI, 100, .inl yl_3)), (ku, .inl (cI, 100, .inl yu_4)), (ko, .inl (cI, 100, .inl yo_5)), (kr, .inr (3, [.int (nI (Ra)), .ref kRn, .ref kRp])), (kRn, .inl (cI, 8, .inl yrn_6)), (kRp, .inl (cI, 48, .inl yrp_7)), (kk, .inl (cI, 8, .inl yk_8)), (kw, .inr (3, [.int (nI (Wa)), .ref kWn, .ref kWp])), (kWn, .inl (cI, 8, .inl ywn_9)), (kWp, .inl (cI, 48, .inl ywp_10)), (ktt, .inl (cI, 8, .inl yt_11)), (kss, .inl (cI, 8, .inl ys_12))] ++ tl) H := hP
  have hD : va_D A ([(g0, .inr (9, [.ref m_ys, .ref m_yk, .ref m_yo, .ref m_yt, .int b0, .ref m_yfa, .ref m_yfe, .int m_mL, .int m_mS, .int m_mM, .ref m_yro, .ref m_yhe, .ref m_ygr, .int m_mF, .int m_mC, .int m_mY, .ref m_yta, .int (nI (z)), .int (nI (m_mf)), .int (nI (m_mt)), .int m_mv, .int m_mw, .ref m_ywa, .ref m_ybi, .ref m_ysi, .ref m_ynu, .ref m_ymo])), (m_ys, .inl (cI, 449, .inl m_ms)), (m_yk, .inl (cI, 449, .inl m_ks)), (h0, .inr (8, [.ref qh, .ref qk, .ref qd, .int 1, .ref qa, .ref qm, .ref qs, .ref qp, .ref ql, .ref qt, .ref qz, .ref qf])), (qh, .inr (1, [.int (nI (Pa)), .ref ae, .ref al, .ref au, .ref ao, .ref ar, .ref ak, .ref aw, .ref att, .ref ass])), (ae, .inl (cI, 10, .inl fae)), (al, .inl (cI, 100, .inl fal)), (au, .inl (cI, 100, .inl fau)), (ao, .inl (cI, 100, .inl fao)), (ar, .inr (3, [.int (nI (Ra)), .ref aRn, .ref aRp])), (aRn, .inl (cI, 8, .inl farn)), (aRp, .inl (cI, 48, .inl farp)), (ak, .inl (cI, 8, .inl fak)), (aw, .inr (3, [.int (nI (Wa)), .ref aWn, .ref aWp])), (aWn, .inl (cI, 8, .inl fawn)), (aWp, .inl (cI, 48, .inl fawp)), (att, .inl (cI, 8, .inl fat)), (ass, .inl (cI, 8, .inl fas)), (qk, .inr (1, [.int (nI (Pa)), .ref ke, .ref kl, .ref ku, .ref ko, .ref kr, .ref kk, .ref kw, .ref ktt, .ref kss])), (ke, .inl (cI, 10, .inl ye_2)), (kl, .inl (cI, 100, .inl yl_3)), (ku, .inl (cI, 100, .inl yu_4)), (ko, .inl (cI, 100, .inl yo_5)), (kr, .inr (3, [.int (nI (Ra)), .ref kRn, .ref kRp])), (kRn, .inl (cI, 8, .inl yrn_6)), (kRp, .inl (cI, 48, .inl yrp_7)), (kk, .inl (cI, 8, .inl yk_8)), (kw, .inr (3, [.int (nI (Wa)), .ref kWn, .ref kWp])), (kWn, .inl (cI, 8, .inl ywn_9)), (kWp, .inl (cI, 48, .inl ywp_10)), (ktt, .inl (cI, 8, .inl yt_11)), (kss, .inl (cI, 8, .inl ys_12))] ++ tl) := hD
  subst hw_r_1
  refine lv_pop hx hb dL_law_1402 rfl ?_
  refine lv_aload_n hx hb dL_law_1403 rfl (lv_at hl 1 rfl) ?_
  refine xc_ViT (wr := [(h0, .inr (8, [.ref qh, .ref qk, .ref qd, .int 1, .ref qa, .ref qm, .ref qs, .ref qp, .ref ql, .ref qt, .ref qz, .ref qf])), (qh, .inr (1, [.int (nI (Pa)), .ref ae, .ref al, .ref au, .ref ao, .ref ar, .ref ak, .ref aw, .ref att, .ref ass])), (ae, .inl (cI, 10, .inl fae)), (al, .inl (cI, 100, .inl fal)), (au, .inl (cI, 100, .inl fau)), (ao, .inl (cI, 100, .inl fao)), (ar, .inr (3, [.int (nI (Ra)), .ref aRn, .ref aRp])), (aRn, .inl (cI, 8, .inl farn)), (aRp, .inl (cI, 48, .inl farp)), (ak, .inl (cI, 8, .inl fak)), (aw, .inr (3, [.int (nI (Wa)), .ref aWn, .ref aWp])), (aWn, .inl (cI, 8, .inl fawn)), (aWp, .inl (cI, 48, .inl fawp)), (att, .inl (cI, 8, .inl fat)), (ass, .inl (cI, 8, .inl fas)), (qk, .inr (1, [.int (nI (Pa)), .ref ke, .ref kl, .ref ku, .ref ko, .ref kr, .ref kk, .ref kw, .ref ktt, .ref kss])), (ke, .inl (cI, 10, .inl ye_2)), (kl, .inl (cI, 100, .inl yl_3)), (ku, .inl (cI, 100, .inl yu_4)), (ko, .inl (cI, 100, .inl yo_5)), (kr, .inr (3, [.int (nI (Ra)), .ref kRn, .ref kRp])), (kRn, .inl (cI, 8, .inl yrn_6)), (kRp, .inl (cI, 48, .inl yrp_7)), (kk, .inl (cI, 8, .inl yk_8)), (kw, .inr (3, [.int (nI (Wa)), .ref kWn, .ref kWp])), (kWn, .inl (cI, 8, .inl ywn_9)), (kWp, .inl (cI, 48, .inl ywp_10)), (ktt, .inl (cI, 8, .inl yt_11)), (kss, .inl (cI, 8, .inl ys_12))]) hF (c_X9_image l D cI cJ cZ cS ta sa sv H.size g0 m_ys m_yk m_yo m_yt b0 m_yfa m_yfe m_mL m_mS m_mM m_yro m_yhe m_ygr m_mF m_mC m_mY m_yta z m_mf m_mt m_mv m_mw m_ywa m_ybi m_ysi m_ynu m_ymo m_ms m_ks m_P m_Rn m_Wn m_hs0 m_hs1 m_hs2 m_hsS m_hsM m_hsp m_hsr m_hsw m_hsR) kv_L_182 ⟨rfl, rfl, Nat.le_of_ble_eq_true rfl, Nat.le_of_ble_eq_true rfl⟩ ⟨Nat.le_of_ble_eq_true rfl, Nat.le_of_ble_eq_true rfl⟩ hK hN hZ hP hD hS hA [0, 1, 2] [3, 4, 5, 6, 7, 8, 9, 10, 11, 12, 13, 14, 15, 16, 17, 18, 19, 20, 21, 22, 23, 24, 25, 26, 27, 28, 29, 30, 31] rfl rfl rfl rfl (by decide) 0 rfl rfl rfl rfl hl.1 rfl (Nat.le_of_ble_eq_true rfl) dL_law_1404 (fun r_19 u_r_19 H locs hw_r_19 hP hD hS => ?_)
  obtain ⟨ks2_20, rfl⟩ : ∃ z, z = u_r_19 := ⟨_, rfl⟩
  try dsimp only at hw_r_19
  obtain ⟨hw_r_19, i_21, i_22, i_23, i_24, i_25, i_26, i_27, i_28, i_29, i_30⟩ := hw_r_19
  have hP : va_P D vwCl ([(h0, .inr (8, [.ref qh, .ref qk, .ref qd, .int 1, .ref qa, .ref qm, .ref qs, .ref qp, .ref ql, .ref qt, .ref qz, .ref qf])), (qh, .inr (1, [.int (nI (Pa)), .ref ae, .ref al, .ref au, .ref ao, .ref ar, .ref ak, .ref aw, .ref att, .ref ass])), (ae, .inl (cI, 10, .inl fae)), (al, .inl (cI, 100, .inl fal)), (au, .inl (cI, 100, .inl fau)), (ao, .inl (cI, 100, .inl fao)), (ar, .inr (3, [.int (nI (Ra)), .ref aRn, .ref aRp])), (aRn, .inl (cI, 8, .inl farn)), (aRp, .inl (cI, 48, .inl farp)), (ak, .inl (cI, 8, .inl fak)), (aw, .inr (3, [.int (nI (Wa)), .ref aWn, .ref aWp])), (aWn, .inl (cI, 8, .inl fawn)), (aWp, .inl (cI, 48, .inl fawp)), (att, .inl (cI, 8, .inl fat)), (ass, .inl (cI, 8, .inl fas)), (qk, .inr (1, [.int (nI (Pa)), .ref ke, .ref kl, .ref ku, .ref ko, .ref kr, .ref kk, .ref kw, .ref ktt, .ref kss])), (ke, .inl (cI, 10, .inl ye_2)), (kl, .inl (cI, 100, .inl yl_3)), (ku, .inl (cI, 100, .inl yu_4)), (ko, .inl (cI, 100, .inl yo_5)), (kr, .inr (3, [.int (nI (Ra)), .ref kRn, .ref kRp])), (kRn, .inl (cI, 8, .inl yrn_6)), (kRp, .inl (cI, 48, .inl yrp_7)), (kk, .inl (cI, 8, .inl yk_8)), (kw, .inr (3, [.int (nI (Wa)), .ref kWn, .ref kWp])), (kWn, .inl (cI, 8, .inl ywn_9)), (kWp, .inl (cI, 48, .inl ywp_10)), (ktt, .inl (cI, 8, .inl yt_11)), (kss, .inl (cI, 8, .inl ys_12)), (g0, .inr (9, [.ref m_ys, .ref m_yk, .ref m_yo, .ref m_yt, .int 1, .ref m_yfa, .ref m_yfe, .int m_mL, .int m_mS, .int m_mM, .ref m_yro, .ref m_yhe, .ref m_ygr, .int m_mF, .int m_mC, .int m_mY, .ref m_yta, .int (nI (z)), .int (nI (m_mf)), .int (nI (m_mt)), .int m_mv, .int m_mw, .ref m_ywa, .ref m_ybi, .ref m_ysi, .ref m_ynu, .ref m_ymo])), (m_ys, .inl (cI, 449, .inl m_ms)), (m_yk, .inl (cI, 449, .inl ks2_20))] ++ tl) H := hP
  have hD : va_D A ([(h0, .inr (8, [.ref qh, .ref qk, .ref qd, .int 1, .ref qa, .ref qm, .ref qs, .ref qp, .ref ql, .ref qt, .ref qz, .ref qf])), (qh, .inr (1, [.int (nI (Pa)), .ref ae, .ref al, .ref au, .ref ao, .ref ar, .ref ak, .ref aw, .ref att, .ref ass])), (ae, .inl (cI, 10, .inl fae)), (al, .inl (cI, 100, .inl fal)), (au, .inl (cI, 100, .inl fau)), (ao, .inl (cI, 100, .inl fao)), (ar, .inr (3, [.int (nI (Ra)), .ref aRn, .ref aRp])), (aRn, .inl (cI, 8, .inl farn)), (aRp, .inl (cI, 48, .inl farp)), (ak, .inl (cI, 8, .inl fak)), (aw, .inr (3, [.int (nI (Wa)), .ref aWn, .ref aWp])), (aWn, .inl (cI, 8, .inl fawn)), (aWp, .inl (cI, 48, .inl fawp)), (att, .inl (cI, 8, .inl fat)), (ass, .inl (cI, 8, .inl fas)), (qk, .inr (1, [.int (nI (Pa)), .ref ke, .ref kl, .ref ku, .ref ko, .ref kr, .ref kk, .ref kw, .ref ktt, .ref kss])), (ke, .inl (cI, 10, .inl ye_2)), (kl, .inl (cI, 100, .inl yl_3)), (ku, .inl (cI, 100, .inl yu_4)), (ko, .inl (cI, 100, .inl yo_5)), (kr, .inr (3, [.int (nI (Ra)), .ref kRn, .ref kRp])), (kRn, .inl (cI, 8, .inl yrn_6)), (kRp, .inl (cI, 48, .inl yrp_7)), (kk, .inl (cI, 8, .inl yk_8)), (kw, .inr (3, [.int (nI (Wa)), .ref kWn, .ref kWp])), (kWn, .inl (cI, 8, .inl ywn_9)), (kWp, .inl (cI, 48, .inl ywp_10)), (ktt, .inl (cI, 8, .inl yt_11)), (kss, .inl (cI, 8, .inl ys_12)), (g0, .inr (9, [.ref m_ys, .ref m_yk, .ref m_yo, .ref m_yt, .int 1, .ref m_yfa, .ref m_yfe, .int m_mL, .int m_mS, .int m_mM, .ref m_yro, .ref m_yhe, .ref m_ygr, .int m_mF, .int m_mC, .int m_mY, .ref m_yta, .int (nI (z)), .int (nI (m_mf)), .int (nI (m_mt)), .int m_mv, .int m_mw, .ref m_ywa, .ref m_ybi, .ref m_ysi, .ref m_ynu, .ref m_ymo])), (m_ys, .inl (cI, 449, .inl m_ms)), (m_yk, .inl (cI, 449, .inl ks2_20))] ++ tl) := hD
  subst hw_r_19
  refine lv_pop hx hb dL_law_1407 rfl ?_
  refine lv_goto (tgt := 1483) hx hb dL_law_1408 (by decide) ?_
  exact kkx _ _ _ 1 Pa ye_2 yl_3 yu_4 yo_5 Ra yrn_6 yrp_7 yk_8 Wa ywn_9 ywp_10 yt_11 ys_12 ks2_20 m_P m_Rn m_Wn (xt_P hP [0, 1, 2, 3, 4, 5, 6, 7, 8, 9, 10, 11, 12, 13, 14, 15, 16, 17, 18, 19, 20, 21, 22, 23, 24, 25, 26, 27, 28, 29, 30, 31] rfl) (xt_D hD [0, 1, 2, 3, 4, 5, 6, 7, 8, 9, 10, 11, 12, 13, 14, 15, 16, 17, 18, 19, 20, 21, 22, 23, 24, 25, 26, 27, 28, 29, 30, 31] (by decide +kernel) rfl) hP0 hR hWa i_13 i_14 i_15 i_16 i_17 i_18 i_22 i_23 i_24 i_25 i_26 i_27 i_28 i_29 i_30 hS hl
set_option maxHeartbeats 4000000 in
set_option maxRecDepth 100000 in
theorem law_40 {p : Program} {e : Env} {s : State} {m : MethodId} {below : List Frame} {meth : Method} {c : Code} (l : Launch) (D : va_G) (cI cJ cZ cS : ClassId) (ta : Nat) (sa sv : Nat → Nat) {b L : Nat} {xs : Nat → Int32} {A : Nat → Prop} (hL : L ≤ 3072) (hF : CallFix p m c cL_law 4 s #[Value.ref b] (Cond.initialized RX8 :: wsU) RL) (hr : meth.sig.returnType = ret) (hlk : meth.locks = false) (hK : va_K D vwCl (xT cI cJ cZ cS) s) (hN : XN sa s) (hX : va_X b L xs s s.heap) (hbl : b < s.heap.size) (hA : ∀ q : Nat, s.heap.size ≤ q → A q) (hbA : ¬ A b) (hAs : ∀ q, A q → s.heap.size ≤ q) (hZ : ST ta sa sv A s s.heap) (h0 g0 i : Nat) (hi : i + 6 ≤ L) (qh : Nat) (qk : Nat) (qd : Nat) (b0 : Int32) (qa : Nat) (qm : Nat) (qs : Nat) (qp : Nat) (ql : Nat) (qt : Nat) (qz : Nat) (qf : Nat) (Pa : Nat) (ae : Nat) (al : Nat) (au : Nat) (ao : Nat) (ar : Nat) (ak : Nat) (aw : Nat) (att : Nat) (ass : Nat) (fae : Nat → Int32) (fal : Nat → Int32) (fau : Nat → Int32) (fao : Nat → Int32) (Ra : Nat) (aRn : Nat) (aRp : Nat) (farn : Nat → Int32) (farp : Nat → Int32) (fak : Nat → Int32) (Wa : Nat) (aWn : Nat) (aWp : Nat) (fawn : Nat → Int32) (fawp : Nat → Int32) (fat : Nat → Int32) (fas : Nat → Int32) (Pk : Nat) (ke : Nat) (kl : Nat) (ku : Nat) (ko : Nat) (kr : Nat) (kk : Nat) (kw : Nat) (ktt : Nat) (kss : Nat) (fke : Nat → Int32) (fkl : Nat → Int32) (fku : Nat → Int32) (fko : Nat → Int32) (Rk : Nat) (kRn : Nat) (kRp : Nat) (fkrn : Nat → Int32) (fkrp : Nat → Int32) (fkk : Nat → Int32) (Wk : Nat) (kWn : Nat) (kWp : Nat) (fkwn : Nat → Int32) (fkwp : Nat → Int32) (fkt : Nat → Int32) (fks : Nat → Int32) (ff : Nat → Int32) (m_ys : Nat) (m_yk : Nat) (m_yo : Nat) (m_yt : Nat) (m_yfa : Nat) (m_yfe : Nat) (m_mL : Int32) (m_mS : Int32) (m_mM : Int32) (m_yro : Nat) (m_yhe : Nat) (m_ygr : Nat) (m_mF : Int32) (m_mC : Int32) (m_mY : Int32) (m_yta : Nat) (z : Nat) (m_mf : Nat) (m_mt : Nat) (m_mv : Int32) (m_mw : Int32) (m_ywa : Nat) (m_ybi : Nat) (m_ysi : Nat) (m_ynu : Nat) (m_ymo : Nat) (m_ms : Nat → Int32) (m_ks : Nat → Int32) (m_mq : Nat → Int32) (m_P : Nat) (m_Rn : Nat) (m_Wn : Nat) (m_Pk : Nat) (m_Rk : Nat) (m_Wk : Nat) {tl : va_W} {H : Heap} {locs : List Loc} {ls : Array Slot} (hP : va_P D vwCl ([(h0, .inr (8, [.ref qh, .ref qk, .ref qd, .int b0, .ref qa, .ref qm, .ref qs, .ref qp, .ref ql, .ref qt, .ref qz, .ref qf])), (qh, .inr (1, [.int (nI (Pa)), .ref ae, .ref al, .ref au, .ref ao, .ref ar, .ref ak, .ref aw, .ref att, .ref ass])), (ae, .inl (cI, 10, .inl fae)), (al, .inl (cI, 100, .inl fal)), (au, .inl (cI, 100, .inl fau)), (ao, .inl (cI, 100, .inl fao)), (ar, .inr (3, [.int (nI (Ra)), .ref aRn, .ref aRp])), (aRn, .inl (cI, 8, .inl farn)), (aRp, .inl (cI, 48, .inl farp)), (ak, .inl (cI, 8, .inl fak)), (aw, .inr (3, [.int (nI (Wa)), .ref aWn, .ref aWp])), (aWn, .inl (cI, 8, .inl fawn)), (aWp, .inl (cI, 48, .inl fawp)), (att, .inl (cI, 8, .inl fat)), (ass, .inl (cI, 8, .inl fas)), (qk, .inr (1, [.int (nI (Pk)), .ref ke, .ref kl, .ref ku, .ref ko, .ref kr, .ref kk, .ref kw, .ref ktt, .ref kss])), (ke, .inl (cI, 10, .inl fke)), (kl, .inl (cI, 100, .inl fkl)), (ku, .inl (cI, 100, .inl fku)), (ko, .inl (cI, 100, .inl fko)), (kr, .inr (3, [.int (nI (Rk)), .ref kRn, .ref kRp])), (kRn, .inl (cI, 8, .inl fkrn)), (kRp, .inl (cI, 48, .inl fkrp)), (kk, .inl (cI, 8, .inl fkk)), (kw, .inr (3, [.int (nI (Wk)), .ref kWn, .ref kWp])), (kWn, .inl (cI, 8, .inl fkwn)), (kWp, .inl (cI, 48, .inl fkwp)), (ktt, .inl (cI, 8, .inl fkt)), (kss, .inl (cI, 8, .inl fks)), (qf, .inl (cI, 7, .inl ff)), (g0, .inr (9, [.ref m_ys, .ref m_yk, .ref m_yo, .ref m_yt, .int b0, .ref m_yfa, .ref m_yfe, .int m_mL, .int m_mS, .int m_mM, .ref m_yro, .ref m_yhe, .ref m_ygr, .int m_mF, .int m_mC, .int m_mY, .ref m_yta, .int (nI (z)), .int (nI (m_mf)), .int (nI (m_mt)), .int m_mv, .int m_mw, .ref m_ywa, .ref m_ybi, .ref m_ysi, .ref m_ynu, .ref m_ymo])), (m_ys, .inl (cI, 449, .inl m_ms)), (m_yk, .inl (cI, 449, .inl m_ks)), (m_yt, .inl (cI, 7, .inl m_mq))] ++ tl) H) (hD : va_D A ([(h0, .inr (8, [.ref qh, .ref qk, .ref qd, .int b0, .ref qa, .ref qm, .ref qs, .ref qp, .ref ql, .ref qt, .ref qz, .ref qf])), (qh, .inr (1, [.int (nI (Pa)), .ref ae, .ref al, .ref au, .ref ao, .ref ar, .ref ak, .ref aw, .ref att, .ref ass])), (ae, .inl (cI, 10, .inl fae)), (al, .inl (cI, 100, .inl fal)), (au, .inl (cI, 100, .inl fau)), (ao, .inl (cI, 100, .inl fao)), (ar, .inr (3, [.int (nI (Ra)), .ref aRn, .ref aRp])), (aRn, .inl (cI, 8, .inl farn)), (aRp, .inl (cI, 48, .inl farp)), (ak, .inl (cI, 8, .inl fak)), (aw, .inr (3, [.int (nI (Wa)), .ref aWn, .ref aWp])), (aWn, .inl (cI, 8, .inl fawn)), (aWp, .inl (cI, 48, .inl fawp)), (att, .inl (cI, 8, .inl fat)), (ass, .inl (cI, 8, .inl fas)), (qk, .inr (1, [.int (nI (Pk)), .ref ke, .ref kl, .ref ku, .ref ko, .ref kr, .ref kk, .ref kw, .ref ktt, .ref kss])), (ke, .inl (cI, 10, .inl fke)), (kl, .inl (cI, 100, .inl fkl)), (ku, .inl (cI, 100, .inl fku)), (ko, .inl (cI, 100, .inl fko)), (kr, .inr (3, [.int (nI (Rk)), .ref kRn, .ref kRp])), (kRn, .inl (cI, 8, .inl fkrn)), (kRp, .inl (cI, 48, .inl fkrp)), (kk, .inl (cI, 8, .inl fkk)), (kw, .inr (3, [.int (nI (Wk)), .ref kWn, .ref kWp])), (kWn, .inl (cI, 8, .inl fkwn)), (kWp, .inl (cI, 48, .inl fkwp)), (ktt, .inl (cI, 8, .inl fkt)), (kss, .inl (cI, 8, .inl fks)), (qf, .inl (cI, 7, .inl ff)), (g0, .inr (9, [.ref m_ys, .ref m_yk, .ref m_yo, .ref m_yt, .int b0, .ref m_yfa, .ref m_yfe, .int m_mL, .int m_mS, .int m_mM, .ref m_yro, .ref m_yhe, .ref m_ygr, .int m_mF, .int m_mC, .int m_mY, .ref m_yta, .int (nI (z)), .int (nI (m_mf)), .int (nI (m_mt)), .int m_mv, .int m_mw, .ref m_ywa, .ref m_ybi, .ref m_ysi, .ref m_ynu, .ref m_ymo])), (m_ys, .inl (cI, 449, .inl m_ms)), (m_yk, .inl (cI, 449, .inl m_ks)), (m_yt, .inl (cI, 7, .inl m_mq))] ++ tl)) (hP0 : Pa ≤ 10) (hR : Ra ≤ 8) (hLLr : LL Ra farn) (hWa : Wa ≤ 8) (hLLw : LL Wa fawn) (hPk : Pk ≤ 10) (hRk : Rk ≤ 8) (hWk : Wk ≤ 8) (hLLrk : LL Rk fkrn) (hLLwk : LL Wk fkwn) (hz : z ≤ 120) (harn : BA 8 7 farn) (harp : BA 48 10 farp) (hawn : BA 8 7 fawn) (hawp : BA 48 10 fawp) (hkrn : BA 8 7 fkrn) (hkrp : BA 48 10 fkrp) (hkwn : BA 8 7 fkwn) (hkwp : BA 48 10 fkwp) (m_hs0 : m_ms 0 = nI m_P) (m_hs1 : m_ms 1 = nI m_Rn) (m_hs2 : m_ms 2 = nI m_Wn) (m_hsS : SI m_ms) (m_hsM : MI m_ms) (m_hsp : m_P ≤ 10) (m_hsr : m_Rn ≤ 8) (m_hsw : m_Wn ≤ 8) (m_hsR : RI m_Rn m_ms) (m_hk0 : m_ks 0 = nI m_Pk) (m_hk1 : m_ks 1 = nI m_Rk) (m_hk2 : m_ks 2 = nI m_Wk) (m_hkS : SI m_ks) (m_hkM : MI m_ks) (m_hkp : m_Pk ≤ 10) (m_hkr : m_Rk ≤ 8) (m_hkw : m_Wk ≤ 8) (m_hkR : RI m_Rk m_ks) (hS : va_S A s.heap H locs) (hl : lv_has ls 4 [(3, .int (nI i)), (2, .ref g0), (1, .ref h0), (0, .ref b)]) (kkx : ∀ (H : Heap) (locs : List Loc) (ls : Array Slot) (Pa_n : Nat) (fae_n : Nat → Int32) (fal_n : Nat → Int32) (fau_n : Nat → Int32) (fao_n : Nat → Int32) (Ra_n : Nat) (farn_n : Nat → Int32) (farp_n : Nat → Int32) (fak_n : Nat → Int32) (Wa_n : Nat) (fawn_n : Nat → Int32) (fawp_n : Nat → Int32) (fat_n : Nat → Int32) (fas_n : Nat → Int32) (ff_n : Nat → Int32) (m_ms_n : Nat → Int32) (m_mq_n : Nat → Int32) (m_P_n : Nat) (m_Rn_n : Nat) (m_Wn_n : Nat), va_P D vwCl ([(h0, .inr (8, [.ref qh, .ref qk, .ref qd, .int b0, .ref qa, .ref qm, .ref qs, .ref qp, .ref ql, .ref qt, .ref qz, .ref qf])), (qh, .inr (1, [.int (nI (Pa_n)), .ref ae, .ref al, .ref au, .ref ao, .ref ar, .ref ak, .ref aw, .ref att, .ref ass])), (ae, .inl (cI, 10, .inl fae_n)), (al, .inl (cI, 100, .inl fal_n)), (au, .inl (cI, 100, .inl fau_n)), (ao, .inl (cI, 100, .inl fao_n)), (ar, .inr (3, [.int (nI (Ra_n)), .ref aRn, .ref aRp])), (aRn, .inl (cI, 8, .inl farn_n)), (aRp, .inl (cI, 48, .inl farp_n)), (ak, .inl (cI, 8, .inl fak_n)), (aw, .inr (3, [.int (nI (Wa_n)), .ref aWn, .ref aWp])), (aWn, .inl (cI, 8, .inl fawn_n)), (aWp, .inl (cI, 48, .inl fawp_n)), (att, .inl (cI, 8, .inl fat_n)), (ass, .inl (cI, 8, .inl fas_n)), (qk, .inr (1, [.int (nI (Pk)), .ref ke, .ref kl, .ref ku, .ref ko, .ref kr, .ref kk, .ref kw, .ref ktt, .ref kss])), (ke, .inl (cI, 10, .inl fke)), (kl, .inl (cI, 100, .inl fkl)), (ku, .inl (cI, 100, .inl fku)), (ko, .inl (cI, 100, .inl fko)), (kr, .inr (3, [.int (nI (Rk)), .ref kRn, .ref kRp])), (kRn, .inl (cI, 8, .inl fkrn)), (kRp, .inl (cI, 48, .inl fkrp)), (kk, .inl (cI, 8, .inl fkk)), (kw, .inr (3, [.int (nI (Wk)), .ref kWn, .ref kWp])), (kWn, .inl (cI, 8, .inl fkwn)), (kWp, .inl (cI, 48, .inl fkwp)), (ktt, .inl (cI, 8, .inl fkt)), (kss, .inl (cI, 8, .inl fks)), (qf, .inl (cI, 7, .inl ff_n)), (g0, .inr (9, [.ref m_ys, .ref m_yk, .ref m_yo, .ref m_yt, .int b0, .ref m_yfa, .ref m_yfe, .int m_mL, .int m_mS, .int m_mM, .ref m_yro, .ref m_yhe, .ref m_ygr, .int m_mF, .int m_mC, .int m_mY, .ref m_yta, .int (nI (z)), .int (nI (m_mf)), .int (nI (m_mt)), .int m_mv, .int m_mw, .ref m_ywa, .ref m_ybi, .ref m_ysi, .ref m_ynu, .ref m_ymo])), (m_ys, .inl (cI, 449, .inl m_ms_n)), (m_yk, .inl (cI, 449, .inl m_ks)), (m_yt, .inl (cI, 7, .inl m_mq_n))] ++ tl) H → va_D A ([(h0, .inr (8, [.ref qh, .ref qk, .ref qd, .int b0, .ref qa, .ref qm, .ref qs, .ref qp, .ref ql, .ref qt, .ref qz, .ref qf])), (qh, .inr (1, [.int (nI (Pa_n)), .ref ae, .ref al, .ref au, .ref ao, .ref ar, .ref ak, .ref aw, .ref att, .ref ass])), (ae, .inl (cI, 10, .inl fae_n)), (al, .inl (cI, 100, .inl fal_n)), (au, .inl (cI, 100, .inl fau_n)), (ao, .inl (cI, 100, .inl fao_n)), (ar, .inr (3, [.int (nI (Ra_n)), .ref aRn, .ref aRp])), (aRn, .inl (cI, 8, .inl farn_n)), (aRp, .inl (cI, 48, .inl farp_n)), (ak, .inl (cI, 8, .inl fak_n)), (aw, .inr (3, [.int (nI (Wa_n)), .ref aWn, .ref aWp])), (aWn, .inl (cI, 8, .inl fawn_n)), (aWp, .inl (cI, 48, .inl fawp_n)), (att, .inl (cI, 8, .inl fat_n)), (ass, .inl (cI, 8, .inl fas_n)), (qk, .inr (1, [.int (nI (Pk)), .ref ke, .ref kl, .ref ku, .ref ko, .ref kr, .ref kk, .ref kw, .ref ktt, .ref kss])), (ke, .inl (cI, 10, .inl fke)), (kl, .inl (cI, 100, .inl fkl)), (ku, .inl (cI, 100, .inl fku)), (ko, .inl (cI, 100, .inl fko)), (kr, .inr (3, [.int (nI (Rk)), .ref kRn, .ref kRp])), (kRn, .inl (cI, 8, .inl fkrn)), (kRp, .inl (cI, 48, .inl fkrp)), (kk, .inl (cI, 8, .inl fkk)), (kw, .inr (3, [.int (nI (Wk)), .ref kWn, .ref kWp])), (kWn, .inl (cI, 8, .inl fkwn)), (kWp, .inl (cI, 48, .inl fkwp)), (ktt, .inl (cI, 8, .inl fkt)), (kss, .inl (cI, 8, .inl fks)), (qf, .inl (cI, 7, .inl ff_n)), (g0, .inr (9, [.ref m_ys, .ref m_yk, .ref m_yo, .ref m_yt, .int b0, .ref m_yfa, .ref m_yfe, .int m_mL, .int m_mS, .int m_mM, .ref m_yro, .ref m_yhe, .ref m_ygr, .int m_mF, .int m_mC, .int m_mY, .ref m_yta, .int (nI (z)), .int (nI (m_mf)), .int (nI (m_mt)), .int m_mv, .int m_mw, .ref m_ywa, .ref m_ybi, .ref m_ysi, .ref m_ynu, .ref m_ymo])), (m_ys, .inl (cI, 449, .inl m_ms_n)), (m_yk, .inl (cI, 449, .inl m_ks)), (m_yt, .inl (cI, 7, .inl m_mq_n))] ++ tl) → (Pa_n ≤ 10) → (Ra_n ≤ 8) → (LL Ra_n farn_n) → (Wa_n ≤ 8) → (LL Wa_n fawn_n) → (BA 8 7 farn_n) → (BA 48 10 farp_n) → (BA 8 7 fawn_n) → (BA 48 10 fawp_n) → (m_ms_n 0 = nI m_P_n) → (m_ms_n 1 = nI m_Rn_n) → (m_ms_n 2 = nI m_Wn_n) → (SI m_ms_n) → (MI m_ms_n) → (m_P_n ≤ 10) → (m_Rn_n ≤ 8) → (m_Wn_n ≤ 8) → (RI m_Rn_n m_ms_n) → va_S A s.heap H locs → lv_has ls 4 [(3, .int (nI i)), (2, .ref g0), (1, .ref h0), (0, .ref b)] → W p l e room_1 s m #[Value.ref b] below meth c H locs 82 4273 (lw_Z below #[Value.ref b] s) (F0 m 1483 ls [])) : W p l e room_1 s m #[Value.ref b] below meth c H locs 82 4273 (lw_Z below #[Value.ref b] s) (F0 m 1411 ls []) := by
  have hx := hF.1
  have hb := hF.2.1
  have hml := hF.2.2.1
  have hown := hF.2.2.2.1
  have hu : ∀ w ∈ wsU, w.before _ s = true := fun w h => hF.2.2.2.2 w (List.mem_cons_of_mem _ h)
  refine lv_aload_n hx hb dL_law_1411 rfl (lv_at hl 2 rfl) ?_
  refine xc_ViT (wr := [(g0, .inr (9, [.ref m_ys, .ref m_yk, .ref m_yo, .ref m_yt, .int b0, .ref m_yfa, .ref m_yfe, .int m_mL, .int m_mS, .int m_mM, .ref m_yro, .ref m_yhe, .ref m_ygr, .int m_mF, .int m_mC, .int m_mY, .ref m_yta, .int (nI (z)), .int (nI (m_mf)), .int (nI (m_mt)), .int m_mv, .int m_mw, .ref m_ywa, .ref m_ybi, .ref m_ysi, .ref m_ynu, .ref m_ymo])), (m_ys, .inl (cI, 449, .inl m_ms)), (m_yk, .inl (cI, 449, .inl m_ks)), (m_yt, .inl (cI, 7, .inl m_mq))]) hF (c_X8_undo l D cI cJ cZ cS ta sa sv H.size h0 qh qk qd b0 qa qm qs qp ql qt qz qf Pa ae al au ao ar ak aw att ass fae fal fau fao Ra aRn aRp farn farp fak Wa aWn aWp fawn fawp fat fas Pk ke kl ku ko kr kk kw ktt kss fke fkl fku fko Rk kRn kRp fkrn fkrp fkk Wk kWn kWp fkwn fkwp fkt fks ff hP0 hR hLLr hWa hLLw hPk hRk hWk hLLrk hLLwk harn harp hawn hawp hkrn hkrp hkwn hkwp) kv_L_183 ⟨rfl, rfl, Nat.le_of_ble_eq_true rfl, Nat.le_of_ble_eq_true rfl⟩ ⟨Nat.le_of_ble_eq_true rfl, Nat.le_of_ble_eq_true rfl⟩ hK hN hZ hP hD hS hA [0, 1, 2, 3, 4, 5, 6, 7, 8, 9, 10, 11, 12, 13, 14, 15, 16, 17, 18, 19, 20, 21, 22, 23, 24, 25, 26, 27, 28, 29] [30, 31, 32, 33] rfl rfl rfl rfl (by decide) 0 rfl rfl rfl rfl hl.1 rfl (Nat.le_of_ble_eq_true rfl) dL_law_1412 (fun r_1 u_r_1 H locs hw_r_1 hP hD hS => ?_)
  obtain ⟨P2_2, ye_3, yl_4, yu_5, yo_6, R2_7, yrn_8, yrp_9, yk_10, W2_11, ywn_12, ywp_13, yt_14, ys_15, f2_16⟩ := u_r_1
  try dsimp only at hw_r_1
  obtain ⟨hw_r_1, i_17, i_18, i_19, i_20, i_21, i_22, i_23, i_24, i_25⟩ := hw_r_1
  have hP : va_P D vwCl ([(g0, .inr (9, [.ref m_ys, .ref m_yk, .ref m_yo, .ref m_yt, .int b0, .ref m_yfa, .ref m_yfe, .int m_mL, .int m_mS, .int m_mM, .ref m_yro, .ref m_yhe, .ref m_ygr, .int m_mF, .int m_mC, .int m_mY, .ref m_yta, .int (nI (z)), .int (nI (m_mf)), .int (nI (m_mt)), .int m_mv, .int m_mw, .ref m_ywa, .ref m_ybi, .ref m_ysi, .ref m_ynu, .ref m_ymo])), (m_ys, .inl (cI, 449, .inl m_ms)), (m_yk, .inl (cI, 449, .inl m_ks)), (m_yt, .inl (cI, 7, .inl m_mq)), (h0, .inr (8, [.ref qh, .ref qk, .ref qd, .int b0, .ref qa, .ref qm, .ref qs, .ref qp, .ref ql, .ref qt, .ref qz, .ref qf])), (qh, .inr (1, [.int (nI (P2_2)), .ref ae, .ref al, .ref au, .ref ao, .ref ar, .ref ak, .ref aw, .ref att, .ref ass])), (ae, .inl (cI, 10, .inl ye_3)), (al, .inl (cI, 100, .inl yl_4)), (au, .inl (cI, 100, .inl yu_5)), (ao, .inl (cI, 100, .inl yo_6)), (ar, .inr (3, [.int (nI (R2_7)), .ref aRn, .ref aRp])), (aRn, .inl (cI, 8, .inl yrn_8)), (aRp, .inl (cI, 48, .inl yrp_9)), (ak, .inl (cI, 8, .inl yk_10)), (aw, .inr (3, [.int (nI (W2_11)), .ref aWn, .ref aWp])), (aWn, .inl (cI, 8, .inl ywn_12)), (aWp, .inl (cI, 48, .inl ywp_13)), (att, .inl (cI, 8, .inl yt_14)), (ass, .inl (cI, 8, .inl ys_15)), (qk, .inr (1, [.int (nI (Pk)), .ref ke, .ref kl, .ref ku, .ref ko, .ref kr, .ref kk, .ref kw, .ref ktt, .ref kss])), (ke, .inl (cI, 10, .inl fke)), (kl, .inl (cI, 100, .inl fkl)), (ku, .inl (cI, 100, .inl fku)), (ko, .inl (cI, 100, .inl fko)), (kr, .inr (3, [.int (nI (Rk)), .ref kRn, .ref kRp])), (kRn, .inl (cI, 8, .inl fkrn)), (kRp, .inl (cI, 48, .inl fkrp)), (kk, .inl (cI, 8, .inl fkk)), (kw, .inr (3, [.int (nI (Wk)), .ref kWn, .ref kWp])), (kWn, .inl (cI, 8, .inl fkwn)), (kWp, .inl (cI, 48, .inl fkwp)), (ktt, .inl (cI, 8, .inl fkt)), (kss, .inl (cI, 8, .inl fks)), (qf, .inl (cI, 7, .inl f2_16))] ++ tl) H := hP
  have hD : va_D A ([(g0, .inr (9, [.ref m_ys, .ref m_yk, .ref m_yo, .ref m_yt, .int b0, .ref m_yfa, .ref m_yfe, .int m_mL, .int m_mS, .int m_mM, .ref m_yro, .ref m_yhe, .ref m_ygr, .int m_mF, .int m_mC, .int m_mY, .ref m_yta, .int (nI (z)), .int (nI (m_mf)), .int (nI (m_mt)), .int m_mv, .int m_mw, .ref m_ywa, .ref m_ybi, .ref m_ysi, .ref m_ynu, .ref m_ymo])), (m_ys, .inl (cI, 449, .inl m_ms)), (m_yk, .inl (cI, 449, .inl m_ks)), (m_yt, .inl (cI, 7, .inl m_mq)), (h0, .inr (8, [.ref qh, .ref qk, .ref qd, .int b0, .ref qa, .ref qm, .ref qs, .ref qp, .ref ql, .ref qt, .ref qz, .ref qf])), (qh, .inr (1, [.int (nI (P2_2)), .ref ae, .ref al, .ref au, .ref ao, .ref ar, .ref ak, .ref aw, .ref att, .ref ass])), (ae, .inl (cI, 10, .inl ye_3)), (al, .inl (cI, 100, .inl yl_4)), (au, .inl (cI, 100, .inl yu_5)), (ao, .inl (cI, 100, .inl yo_6)), (ar, .inr (3, [.int (nI (R2_7)), .ref aRn, .ref aRp])), (aRn, .inl (cI, 8, .inl yrn_8)), (aRp, .inl (cI, 48, .inl yrp_9)), (ak, .inl (cI, 8, .inl yk_10)), (aw, .inr (3, [.int (nI (W2_11)), .ref aWn, .ref aWp])), (aWn, .inl (cI, 8, .inl ywn_12)), (aWp, .inl (cI, 48, .inl ywp_13)), (att, .inl (cI, 8, .inl yt_14)), (ass, .inl (cI, 8, .inl ys_15)), (qk, .inr (1, [.int (nI (Pk)), .ref ke, .ref kl, .ref ku, .ref ko, .ref kr, .ref kk, .ref kw, .ref ktt, .ref kss])), (ke, .inl (cI, 10, .inl fke)), (kl, .inl (cI, 100, .inl fkl)), (ku, .inl (cI, 100, .inl fku)), (ko, .inl (cI, 100, .inl fko)), (kr, .inr (3, [.int (nI (Rk)), .ref kRn, .ref kRp])), (kRn, .inl (cI, 8, .inl fkrn)), (kRp, .inl (cI, 48, .inl fkrp)), (kk, .inl (cI, 8, .inl fkk)), (kw, .inr (3, [.int (nI (Wk)), .ref kWn, .ref kWp])), (kWn, .inl (cI, 8, .inl fkwn)), (kWp, .inl (cI, 48, .inl fkwp)), (ktt, .inl (cI, 8, .inl fkt)), (kss, .inl (cI, 8, .inl fks)), (qf, .inl (cI, 7, .inl f2_16))] ++ tl) := hD
  refine lv_pop hx hb dL_law_1415 rfl ?_
  refine lv_aload_n hx hb dL_law_1416 rfl (lv_at hl 1 rfl) ?_
  refine xc_ViT (wr := [(h0, .inr (8, [.ref qh, .ref qk, .ref qd, .int b0, .ref qa, .ref qm, .ref qs, .ref qp, .ref ql, .ref qt, .ref qz, .ref qf])), (qh, .inr (1, [.int (nI (P2_2)), .ref ae, .ref al, .ref au, .ref ao, .ref ar, .ref ak, .ref aw, .ref att, .ref ass])), (ae, .inl (cI, 10, .inl ye_3)), (al, .inl (cI, 100, .inl yl_4)), (au, .inl (cI, 100, .inl yu_5)), (ao, .inl (cI, 100, .inl yo_6)), (ar, .inr (3, [.int (nI (R2_7)), .ref aRn, .ref aRp])), (aRn, .inl (cI, 8, .inl yrn_8)), (aRp, .inl (cI, 48, .inl yrp_9)), (ak, .inl (cI, 8, .inl yk_10)), (aw, .inr (3, [.int (nI (W2_11)), .ref aWn, .ref aWp])), (aWn, .inl (cI, 8, .inl ywn_12)), (aWp, .inl (cI, 48, .inl ywp_13)), (att, .inl (cI, 8, .inl yt_14)), (ass, .inl (cI, 8, .inl ys_15)), (qk, .inr (1, [.int (nI (Pk)), .ref ke, .ref kl, .ref ku, .ref ko, .ref kr, .ref kk, .ref kw, .ref ktt, .ref kss])), (ke, .inl (cI, 10, .inl fke)), (kl, .inl (cI, 100, .inl fkl)), (ku, .inl (cI, 100, .inl fku)), (ko, .inl (cI, 100, .inl fko)), (kr, .inr (3, [.int (nI (Rk)), .ref kRn, .ref kRp])), (kRn, .inl (cI, 8, .inl fkrn)), (kRp, .inl (cI, 48, .inl fkrp)), (kk, .inl (cI, 8, .inl fkk)), (kw, .inr (3, [.int (nI (Wk)), .ref kWn, .ref kWp])), (kWn, .inl (cI, 8, .inl fkwn)), (kWp, .inl (cI, 48, .inl fkwp)), (ktt, .inl (cI, 8, .inl fkt)), (kss, .inl (cI, 8, .inl fks)), (qf, .inl (cI, 7, .inl f2_16))]) hF (c_X9_undo l D cI cJ cZ cS ta sa sv H.size g0 m_ys m_yk m_yo m_yt b0 m_yfa m_yfe m_mL m_mS m_mM m_yro m_yhe m_ygr m_mF m_mC m_mY m_yta z m_mf m_mt m_mv m_mw m_ywa m_ybi m_ysi m_ynu m_ymo m_ms m_ks m_mq m_P m_Rn m_Wn m_Pk m_Rk m_Wk m_hs0 m_hs1 m_hs2 m_hsS m_hsM m_hsp m_hsr m_hsw m_hsR m_hk0 m_hk1 m_hk2 m_hkS m_hkM m_hkp m_hkr m_hkw m_hkR) kv_L_186 ⟨rfl, rfl, Nat.le_of_ble_eq_true rfl, Nat.le_of_ble_eq_true rfl⟩ ⟨Nat.le_of_ble_eq_true rfl, Nat.le_of_ble_eq_true rfl⟩ hK hN hZ hP hD hS hA [0, 1, 2, 3] [4, 5, 6, 7, 8, 9, 10, 11, 12, 13, 14, 15, 16, 17, 18, 19, 20, 21, 22, 23, 24, 25, 26, 27, 28, 29, 30, 31, 32, 33] rfl rfl rfl rfl (by decide) 0 rfl rfl rfl rfl hl.1 rfl (Nat.le_of_ble_eq_true rfl) dL_law_1417 (fun r_26 u_r_26 H locs hw_r_26 hP hD hS => ?_)
  obtain ⟨ms2_27, mq2_28, P2_29, R2_30, W2_31⟩ := u_r_26
  try dsimp only at hw_r_26
  obtain ⟨hw_r_26, i_32, i_33, i_34, i_35, i_36, i_37, i_38, i_39, i_40⟩ := hw_r_26
  have hP : va_P D vwCl ([(h0, .inr (8, [.ref qh, .ref qk, .ref qd, .int b0, .ref qa, .ref qm, .ref qs, .ref qp, .ref ql, .ref qt, .ref qz, .ref qf])), (qh, .inr (1, [.int (nI (P2_2)), .ref ae, .ref al, .ref au, .ref ao, .ref ar, .ref ak, .ref aw, .ref att, .ref ass])), (ae, .inl (cI, 10, .inl ye_3)), (al, .inl (cI, 100, .inl yl_4)), (au, .inl (cI, 100, .inl yu_5)), (ao, .inl (cI, 100, .inl yo_6)), (ar, .inr (3, [.int (nI (R2_7)), .ref aRn, .ref aRp])), (aRn, .inl (cI, 8, .inl yrn_8)), (aRp, .inl (cI, 48, .inl yrp_9)), (ak, .inl (cI, 8, .inl yk_10)), (aw, .inr (3, [.int (nI (W2_11)), .ref aWn, .ref aWp])), (aWn, .inl (cI, 8, .inl ywn_12)), (aWp, .inl (cI, 48, .inl ywp_13)), (att, .inl (cI, 8, .inl yt_14)), (ass, .inl (cI, 8, .inl ys_15)), (qk, .inr (1, [.int (nI (Pk)), .ref ke, .ref kl, .ref ku, .ref ko, .ref kr, .ref kk, .ref kw, .ref ktt, .ref kss])), (ke, .inl (cI, 10, .inl fke)), (kl, .inl (cI, 100, .inl fkl)), (ku, .inl (cI, 100, .inl fku)), (ko, .inl (cI, 100, .inl fko)), (kr, .inr (3, [.int (nI (Rk)), .ref kRn, .ref kRp])), (kRn, .inl (cI, 8, .inl fkrn)), (kRp, .inl (cI, 48, .inl fkrp)), (kk, .inl (cI, 8, .inl fkk)), (kw, .inr (3, [.int (nI (Wk)), .ref kWn, .ref kWp])), (kWn, .inl (cI, 8, .inl fkwn)), (kWp, .inl (cI, 48, .inl fkwp)), (ktt, .inl (cI, 8, .inl fkt)), (kss, .inl (cI, 8, .inl fks)), (qf, .inl (cI, 7, .inl f2_16)), (g0, .inr (9, [.ref m_ys, .ref m_yk, .ref m_yo, .ref m_yt, .int b0, .ref m_yfa, .ref m_yfe, .int m_mL, .int m_mS, .int m_mM, .ref m_yro, .ref m_yhe, .ref m_ygr, .int m_mF, .int m_mC, .int m_mY, .ref m_yta, .int (nI (z)), .int (nI (m_mf)), .int (nI (m_mt)), .int m_mv, .int m_mw, .ref m_ywa, .ref m_ybi, .ref m_ysi, .ref m_ynu, .ref m_ymo])), (m_ys, .inl (cI, 449, .inl ms2_27)), (m_yk, .inl (cI, 449, .inl m_ks)), (m_yt, .inl (cI, 7, .inl mq2_28))] ++ tl) H := hP
  have hD : va_D A ([(h0, .inr (8, [.ref qh, .ref qk, .ref qd, .int b0, .ref qa, .ref qm, .ref qs, .ref qp, .ref ql, .ref qt, .ref qz, .ref qf])), (qh, .inr (1, [.int (nI (P2_2)), .ref ae, .ref al, .ref au, .ref ao, .ref ar, .ref ak, .ref aw, .ref att, .ref ass])), (ae, .inl (cI, 10, .inl ye_3)), (al, .inl (cI, 100, .inl yl_4)), (au, .inl (cI, 100, .inl yu_5)), (ao, .inl (cI, 100, .inl yo_6)), (ar, .inr (3, [.int (nI (R2_7)), .ref aRn, .ref aRp])), (aRn, .inl (cI, 8, .inl yrn_8)), (aRp, .inl (cI, 48, .inl yrp_9)), (ak, .inl (cI, 8, .inl yk_10)), (aw, .inr (3, [.int (nI (W2_11)), .ref aWn, .ref aWp])), (aWn, .inl (cI, 8, .inl ywn_12)), (aWp, .inl (cI, 48, .inl ywp_13)), (att, .inl (cI, 8, .inl yt_14)), (ass, .inl (cI, 8, .inl ys_15)), (qk, .inr (1, [.int (nI (Pk)), .ref ke, .ref kl, .ref ku, .ref ko, .ref kr, .ref kk, .ref kw, .ref ktt, .ref kss])), (ke, .inl (cI, 10, .inl fke)), (kl, .inl (cI, 100, .inl fkl)), (ku, .inl (cI, 100, .inl fku)), (ko, .inl (cI, 100, .inl fko)), (kr, .inr (3, [.int (nI (Rk)), .ref kRn, .ref kRp])), (kRn, .inl (cI, 8, .inl fkrn)), (kRp, .inl (cI, 48, .inl fkrp)), (kk, .inl (cI, 8, .inl fkk)), (kw, .inr (3, [.int (nI (Wk)), .ref kWn, .ref kWp])), (kWn, .inl (cI, 8, .inl fkwn)), (kWp, .inl (cI, 48, .inl fkwp)), (ktt, .inl (cI, 8, .inl fkt)), (kss, .inl (cI, 8, .inl fks)), (qf, .inl (cI, 7, .inl f2_16)), (g0, .inr (9, [.ref m_ys, .ref m_yk, .ref m_yo, .ref m_yt, .int b0, .ref m_yfa, .ref m_yfe, .int m_mL, .int m_mS, .int m_mM, .ref m_yro, .ref m_yhe, .ref m_ygr, .int m_mF, .int m_mC, .int m_mY, .ref m_yta, .int (nI (z)), .int (nI (m_mf)), .int (nI (m_mt)), .int m_mv, .int m_mw, .ref m_ywa, .ref m_ybi, .ref m_ysi, .ref m_ynu, .ref m_ymo])), (m_ys, .inl (cI, 449, .inl ms2_27)), (m_yk, .inl (cI, 449, .inl m_ks)), (m_yt, .inl (cI, 7, .inl mq2_28))] ++ tl) := hD
  refine lv_pop hx hb dL_law_1420 rfl ?_
  refine lv_goto (tgt := 1483) hx hb dL_law_1421 (by decide) ?_
  exact kkx _ _ _ P2_2 ye_3 yl_4 yu_5 yo_6 R2_7 yrn_8 yrp_9 yk_10 W2_11 ywn_12 ywp_13 yt_14 ys_15 f2_16 ms2_27 mq2_28 P2_29 R2_30 W2_31 (xt_P hP [0, 1, 2, 3, 4, 5, 6, 7, 8, 9, 10, 11, 12, 13, 14, 15, 16, 17, 18, 19, 20, 21, 22, 23, 24, 25, 26, 27, 28, 29, 30, 31, 32, 33] rfl) (xt_D hD [0, 1, 2, 3, 4, 5, 6, 7, 8, 9, 10, 11, 12, 13, 14, 15, 16, 17, 18, 19, 20, 21, 22, 23, 24, 25, 26, 27, 28, 29, 30, 31, 32, 33] (by decide +kernel) rfl) i_17 i_18 i_20 i_19 i_21 i_22 i_23 i_24 i_25 i_32 i_33 i_34 i_35 i_36 i_37 i_38 i_39 i_40 hS hl
set_option maxHeartbeats 4000000 in
set_option maxRecDepth 100000 in
theorem law_41 {p : Program} {e : Env} {s : State} {m : MethodId} {below : List Frame} {meth : Method} {c : Code} (l : Launch) (D : va_G) (cI cJ cZ cS : ClassId) (ta : Nat) (sa sv : Nat → Nat) {b L : Nat} {xs : Nat → Int32} {A : Nat → Prop} (hL : L ≤ 3072) (hF : CallFix p m c cL_law 4 s #[Value.ref b] (Cond.initialized RX8 :: wsU) RL) (hr : meth.sig.returnType = ret) (hlk : meth.locks = false) (hK : va_K D vwCl (xT cI cJ cZ cS) s) (hN : XN sa s) (hX : va_X b L xs s s.heap) (hbl : b < s.heap.size) (hA : ∀ q : Nat, s.heap.size ≤ q → A q) (hbA : ¬ A b) (hAs : ∀ q, A q → s.heap.size ≤ q) (hZ : ST ta sa sv A s s.heap) (h0 g0 i : Nat) (hi : i + 6 ≤ L) (qh : Nat) (qk : Nat) (qd : Nat) (b0 : Int32) (qa : Nat) (qm : Nat) (qs : Nat) (qp : Nat) (ql : Nat) (qt : Nat) (qz : Nat) (qf : Nat) (m_ys : Nat) (m_yk : Nat) (m_yo : Nat) (m_yt : Nat) (m_yfa : Nat) (m_yfe : Nat) (m_mL : Int32) (m_mS : Int32) (m_mM : Int32) (m_yro : Nat) (m_yhe : Nat) (m_ygr : Nat) (m_mF : Int32) (m_mC : Int32) (m_mY : Int32) (m_yta : Nat) (z : Nat) (m_mf : Nat) (m_mt : Nat) (m_mv : Int32) (m_mw : Int32) (m_ywa : Nat) (m_ybi : Nat) (m_ysi : Nat) (m_ynu : Nat) (m_ymo : Nat) {tl : va_W} {H : Heap} {locs : List Loc} {ls : Array Slot} (hP : va_P D vwCl ([(h0, .inr (8, [.ref qh, .ref qk, .ref qd, .int b0, .ref qa, .ref qm, .ref qs, .ref qp, .ref ql, .ref qt, .ref qz, .ref qf])), (g0, .inr (9, [.ref m_ys, .ref m_yk, .ref m_yo, .ref m_yt, .int b0, .ref m_yfa, .ref m_yfe, .int m_mL, .int m_mS, .int m_mM, .ref m_yro, .ref m_yhe, .ref m_ygr, .int m_mF, .int m_mC, .int m_mY, .ref m_yta, .int (nI (z)), .int (nI (m_mf)), .int (nI (m_mt)), .int m_mv, .int m_mw, .ref m_ywa, .ref m_ybi, .ref m_ysi, .ref m_ynu, .ref m_ymo]))] ++ tl) H) (hD : va_D A ([(h0, .inr (8, [.ref qh, .ref qk, .ref qd, .int b0, .ref qa, .ref qm, .ref qs, .ref qp, .ref ql, .ref qt, .ref qz, .ref qf])), (g0, .inr (9, [.ref m_ys, .ref m_yk, .ref m_yo, .ref m_yt, .int b0, .ref m_yfa, .ref m_yfe, .int m_mL, .int m_mS, .int m_mM, .ref m_yro, .ref m_yhe, .ref m_ygr, .int m_mF, .int m_mC, .int m_mY, .ref m_yta, .int (nI (z)), .int (nI (m_mf)), .int (nI (m_mt)), .int m_mv, .int m_mw, .ref m_ywa, .ref m_ybi, .ref m_ysi, .ref m_ynu, .ref m_ymo]))] ++ tl)) (hz : z ≤ 120) (hS : va_S A s.heap H locs) (hl : lv_has ls 4 [(3, .int (nI i)), (2, .ref g0), (1, .ref h0), (0, .ref b)]) (kkx : ∀ (H : Heap) (locs : List Loc) (ls : Array Slot) (b0_n : Int32), va_P D vwCl ([(h0, .inr (8, [.ref qh, .ref qk, .ref qd, .int b0_n, .ref qa, .ref qm, .ref qs, .ref qp, .ref ql, .ref qt, .ref qz, .ref qf])), (g0, .inr (9, [.ref m_ys, .ref m_yk, .ref m_yo, .ref m_yt, .int b0_n, .ref m_yfa, .ref m_yfe, .int m_mL, .int m_mS, .int m_mM, .ref m_yro, .ref m_yhe, .ref m_ygr, .int m_mF, .int m_mC, .int m_mY, .ref m_yta, .int (nI (z)), .int (nI (m_mf)), .int (nI (m_mt)), .int m_mv, .int m_mw, .ref m_ywa, .ref m_ybi, .ref m_ysi, .ref m_ynu, .ref m_ymo]))] ++ tl) H → va_D A ([(h0, .inr (8, [.ref qh, .ref qk, .ref qd, .int b0_n, .ref qa, .ref qm, .ref qs, .ref qp, .ref ql, .ref qt, .ref qz, .ref qf])), (g0, .inr (9, [.ref m_ys, .ref m_yk, .ref m_yo, .ref m_yt, .int b0_n, .ref m_yfa, .ref m_yfe, .int m_mL, .int m_mS, .int m_mM, .ref m_yro, .ref m_yhe, .ref m_ygr, .int m_mF, .int m_mC, .int m_mY, .ref m_yta, .int (nI (z)), .int (nI (m_mf)), .int (nI (m_mt)), .int m_mv, .int m_mw, .ref m_ywa, .ref m_ybi, .ref m_ysi, .ref m_ynu, .ref m_ymo]))] ++ tl) → va_S A s.heap H locs → lv_has ls 4 [(3, .int (nI i)), (2, .ref g0), (1, .ref h0), (0, .ref b)] → W p l e room_1 s m #[Value.ref b] below meth c H locs 82 4273 (lw_Z below #[Value.ref b] s) (F0 m 1483 ls [])) : W p l e room_1 s m #[Value.ref b] below meth c H locs 82 4273 (lw_Z below #[Value.ref b] s) (F0 m 1424 ls []) := by
  have hx := hF.1
  have hb := hF.2.1
  have hml := hF.2.2.1
  have hown := hF.2.2.2.1
  have hu : ∀ w ∈ wsU, w.before _ s = true := fun w h => hF.2.2.2.2 w (List.mem_cons_of_mem _ h)
  refine lv_aload_n hx hb dL_law_1424 rfl (lv_at hl 2 rfl) ?_
  refine xc_ViT (wr := [(g0, .inr (9, [.ref m_ys, .ref m_yk, .ref m_yo, .ref m_yt, .int b0, .ref m_yfa, .ref m_yfe, .int m_mL, .int m_mS, .int m_mM, .ref m_yro, .ref m_yhe, .ref m_ygr, .int m_mF, .int m_mC, .int m_mY, .ref m_yta, .int (nI (z)), .int (nI (m_mf)), .int (nI (m_mt)), .int m_mv, .int m_mw, .ref m_ywa, .ref m_ybi, .ref m_ysi, .ref m_ynu, .ref m_ymo]))]) hF (c_X8_tear l D cI cJ cZ cS ta sa sv H.size h0 qh qk qd b0 qa qm qs qp ql qt qz qf ) kv_L_187 ⟨rfl, rfl, Nat.le_of_ble_eq_true rfl, Nat.le_of_ble_eq_true rfl⟩ ⟨Nat.le_of_ble_eq_true rfl, Nat.le_of_ble_eq_true rfl⟩ hK hN hZ hP hD hS hA [0] [1] rfl rfl rfl rfl (by decide) 0 rfl rfl rfl rfl hl.1 rfl (Nat.le_of_ble_eq_true rfl) dL_law_1425 (fun r_1 u_r_1 H locs hw_r_1 hP hD hS => ?_)
  have hP : va_P D vwCl ([(g0, .inr (9, [.ref m_ys, .ref m_yk, .ref m_yo, .ref m_yt, .int b0, .ref m_yfa, .ref m_yfe, .int m_mL, .int m_mS, .int m_mM, .ref m_yro, .ref m_yhe, .ref m_ygr, .int m_mF, .int m_mC, .int m_mY, .ref m_yta, .int (nI (z)), .int (nI (m_mf)), .int (nI (m_mt)), .int m_mv, .int m_mw, .ref m_ywa, .ref m_ybi, .ref m_ysi, .ref m_ynu, .ref m_ymo])), (h0, .inr (8, [.ref qh, .ref qk, .ref qd, .int 0, .ref qa, .ref qm, .ref qs, .ref qp, .ref ql, .ref qt, .ref qz, .ref qf]))] ++ tl) H := hP
  have hD : va_D A ([(g0, .inr (9, [.ref m_ys, .ref m_yk, .ref m_yo, .ref m_yt, .int b0, .ref m_yfa, .ref m_yfe, .int m_mL, .int m_mS, .int m_mM, .ref m_yro, .ref m_yhe, .ref m_ygr, .int m_mF, .int m_mC, .int m_mY, .ref m_yta, .int (nI (z)), .int (nI (m_mf)), .int (nI (m_mt)), .int m_mv, .int m_mw, .ref m_ywa, .ref m_ybi, .ref m_ysi, .ref m_ynu, .ref m_ymo])), (h0, .inr (8, [.ref qh, .ref qk, .ref qd, .int 0, .ref qa, .ref qm, .ref qs, .ref qp, .ref ql, .ref qt, .ref qz, .ref qf]))] ++ tl) := hD
  rcases hw_r_1 with ⟨rfl, h_2⟩ | ⟨rfl, h_3⟩
  · skip
    refine lv_pop hx hb dL_law_1428 rfl ?_
    refine lv_aload_n hx hb dL_law_1429 rfl (lv_at hl 1 rfl) ?_
    refine xc_ViT (wr := [(h0, .inr (8, [.ref qh, .ref qk, .ref qd, .int 0, .ref qa, .ref qm, .ref qs, .ref qp, .ref ql, .ref qt, .ref qz, .ref qf]))]) hF (c_X9_tear l D cI cJ cZ cS ta sa sv H.size g0 m_ys m_yk m_yo m_yt b0 m_yfa m_yfe m_mL m_mS m_mM m_yro m_yhe m_ygr m_mF m_mC m_mY m_yta z m_mf m_mt m_mv m_mw m_ywa m_ybi m_ysi m_ynu m_ymo ) kv_L_190 ⟨rfl, rfl, Nat.le_of_ble_eq_true rfl, Nat.le_of_ble_eq_true rfl⟩ ⟨Nat.le_of_ble_eq_true rfl, Nat.le_of_ble_eq_true rfl⟩ hK hN hZ hP hD hS hA [0] [1] rfl rfl rfl rfl (by decide) 0 rfl rfl rfl rfl hl.1 rfl (Nat.le_of_ble_eq_true rfl) dL_law_1430 (fun r_4 u_r_4 H locs hw_r_4 hP hD hS => ?_)
    have hP : va_P D vwCl ([(h0, .inr (8, [.ref qh, .ref qk, .ref qd, .int 0, .ref qa, .ref qm, .ref qs, .ref qp, .ref ql, .ref qt, .ref qz, .ref qf])), (g0, .inr (9, [.ref m_ys, .ref m_yk, .ref m_yo, .ref m_yt, .int 0, .ref m_yfa, .ref m_yfe, .int m_mL, .int m_mS, .int m_mM, .ref m_yro, .ref m_yhe, .ref m_ygr, .int m_mF, .int m_mC, .int m_mY, .ref m_yta, .int (nI (z)), .int (nI (m_mf)), .int (nI (m_mt)), .int m_mv, .int m_mw, .ref m_ywa, .ref m_ybi, .ref m_ysi, .ref m_ynu, .ref m_ymo]))] ++ tl) H := hP
    have hD : va_D A ([(h0, .inr (8, [.ref qh, .ref qk, .ref qd, .int 0, .ref qa, .ref qm, .ref qs, .ref qp, .ref ql, .ref qt, .ref qz, .ref qf])), (g0, .inr (9, [.ref m_ys, .ref m_yk, .ref m_yo, .ref m_yt, .int 0, .ref m_yfa, .ref m_yfe, .int m_mL, .int m_mS, .int m_mM, .ref m_yro, .ref m_yhe, .ref m_ygr, .int m_mF, .int m_mC, .int m_mY, .ref m_yta, .int (nI (z)), .int (nI (m_mf)), .int (nI (m_mt)), .int m_mv, .int m_mw, .ref m_ywa, .ref m_ybi, .ref m_ysi, .ref m_ynu, .ref m_ymo]))] ++ tl) := hD
    rcases hw_r_4 with ⟨rfl, h_5⟩ | ⟨rfl, h_6⟩
    · skip
      refine lv_pop hx hb dL_law_1433 rfl ?_
      refine lv_goto (tgt := 1483) hx hb dL_law_1434 (by decide) ?_
      exact kkx _ _ _ 0 (xt_P hP [0, 1] rfl) (xt_D hD [0, 1] (by decide +kernel) rfl)  hS hl
    · exact absurd h_6 h_2
  · skip
    refine lv_pop hx hb dL_law_1428 rfl ?_
    refine lv_aload_n hx hb dL_law_1429 rfl (lv_at hl 1 rfl) ?_
    refine xc_ViT (wr := [(h0, .inr (8, [.ref qh, .ref qk, .ref qd, .int 0, .ref qa, .ref qm, .ref qs, .ref qp, .ref ql, .ref qt, .ref qz, .ref qf]))]) hF (c_X9_tear l D cI cJ cZ cS ta sa sv H.size g0 m_ys m_yk m_yo m_yt b0 m_yfa m_yfe m_mL m_mS m_mM m_yro m_yhe m_ygr m_mF m_mC m_mY m_yta z m_mf m_mt m_mv m_mw m_ywa m_ybi m_ysi m_ynu m_ymo ) kv_L_190 ⟨rfl, rfl, Nat.le_of_ble_eq_true rfl, Nat.le_of_ble_eq_true rfl⟩ ⟨Nat.le_of_ble_eq_true rfl, Nat.le_of_ble_eq_true rfl⟩ hK hN hZ hP hD hS hA [0] [1] rfl rfl rfl rfl (by decide) 0 rfl rfl rfl rfl hl.1 rfl (Nat.le_of_ble_eq_true rfl) dL_law_1430 (fun r_7 u_r_7 H locs hw_r_7 hP hD hS => ?_)
    have hP : va_P D vwCl ([(h0, .inr (8, [.ref qh, .ref qk, .ref qd, .int 0, .ref qa, .ref qm, .ref qs, .ref qp, .ref ql, .ref qt, .ref qz, .ref qf])), (g0, .inr (9, [.ref m_ys, .ref m_yk, .ref m_yo, .ref m_yt, .int 0, .ref m_yfa, .ref m_yfe, .int m_mL, .int m_mS, .int m_mM, .ref m_yro, .ref m_yhe, .ref m_ygr, .int m_mF, .int m_mC, .int m_mY, .ref m_yta, .int (nI (z)), .int (nI (m_mf)), .int (nI (m_mt)), .int m_mv, .int m_mw, .ref m_ywa, .ref m_ybi, .ref m_ysi, .ref m_ynu, .ref m_ymo]))] ++ tl) H := hP
    have hD : va_D A ([(h0, .inr (8, [.ref qh, .ref qk, .ref qd, .int 0, .ref qa, .ref qm, .ref qs, .ref qp, .ref ql, .ref qt, .ref qz, .ref qf])), (g0, .inr (9, [.ref m_ys, .ref m_yk, .ref m_yo, .ref m_yt, .int 0, .ref m_yfa, .ref m_yfe, .int m_mL, .int m_mS, .int m_mM, .ref m_yro, .ref m_yhe, .ref m_ygr, .int m_mF, .int m_mC, .int m_mY, .ref m_yta, .int (nI (z)), .int (nI (m_mf)), .int (nI (m_mt)), .int m_mv, .int m_mw, .ref m_ywa, .ref m_ybi, .ref m_ysi, .ref m_ynu, .ref m_ymo]))] ++ tl) := hD
    rcases hw_r_7 with ⟨rfl, h_8⟩ | ⟨rfl, h_9⟩
    · exact absurd h_3 h_8
    · skip
      refine lv_pop hx hb dL_law_1433 rfl ?_
      refine lv_goto (tgt := 1483) hx hb dL_law_1434 (by decide) ?_
      exact kkx _ _ _ 0 (xt_P hP [0, 1] rfl) (xt_D hD [0, 1] (by decide +kernel) rfl)  hS hl
set_option maxHeartbeats 4000000 in
set_option maxRecDepth 100000 in
theorem law_42 {p : Program} {e : Env} {s : State} {m : MethodId} {below : List Frame} {meth : Method} {c : Code} (l : Launch) (D : va_G) (cI cJ cZ cS : ClassId) (ta : Nat) (sa sv : Nat → Nat) {b L : Nat} {xs : Nat → Int32} {A : Nat → Prop} (hL : L ≤ 3072) (hF : CallFix p m c cL_law 4 s #[Value.ref b] (Cond.initialized RX8 :: wsU) RL) (hr : meth.sig.returnType = ret) (hlk : meth.locks = false) (hK : va_K D vwCl (xT cI cJ cZ cS) s) (hN : XN sa s) (hX : va_X b L xs s s.heap) (hbl : b < s.heap.size) (hA : ∀ q : Nat, s.heap.size ≤ q → A q) (hbA : ¬ A b) (hAs : ∀ q, A q → s.heap.size ≤ q) (hZ : ST ta sa sv A s s.heap) (h0 g0 i : Nat) (hi : i + 6 ≤ L) (qh : Nat) (qk : Nat) (qd : Nat) (b0 : Int32) (qa : Nat) (qm : Nat) (qs : Nat) (qp : Nat) (ql : Nat) (qt : Nat) (qz : Nat) (qf : Nat) (Pa : Nat) (ae : Nat) (al : Nat) (au : Nat) (ao : Nat) (ar : Nat) (ak : Nat) (aw : Nat) (att : Nat) (ass : Nat) (fae : Nat → Int32) (fal : Nat → Int32) (fau : Nat → Int32) (fao : Nat → Int32) (Ra : Nat) (aRn : Nat) (aRp : Nat) (Wa : Nat) (aWn : Nat) (aWp : Nat) (z : Nat) (tb : Nat) (tk : Int32) (s9 : Nat) (x9 : Nat) (v9 : Nat) (t9 : Int32) (ff : Nat → Int32) (m_ys : Nat) (m_yk : Nat) (m_yo : Nat) (m_yt : Nat) (m_yfa : Nat) (m_yfe : Nat) (m_mL : Int32) (m_mS : Int32) (m_mM : Int32) (m_yro : Nat) (m_yhe : Nat) (m_ygr : Nat) (m_mF : Int32) (m_mC : Int32) (m_mY : Int32) (m_yta : Nat) (m_mf : Nat) (m_mt : Nat) (m_mv : Int32) (m_mw : Int32) (m_ywa : Nat) (m_ybi : Nat) (m_ysi : Nat) (m_ynu : Nat) (m_ymo : Nat) (m_ms : Nat → Int32) (m_mq : Nat → Int32) (m_P : Nat) (m_Rn : Nat) (m_Wn : Nat) {tl : va_W} {H : Heap} {locs : List Loc} {ls : Array Slot} (hP : va_P D vwCl ([(h0, .inr (8, [.ref qh, .ref qk, .ref qd, .int b0, .ref qa, .ref qm, .ref qs, .ref qp, .ref ql, .ref qt, .ref qz, .ref qf])), (qh, .inr (1, [.int (nI (Pa)), .ref ae, .ref al, .ref au, .ref ao, .ref ar, .ref ak, .ref aw, .ref att, .ref ass])), (ae, .inl (cI, 10, .inl fae)), (al, .inl (cI, 100, .inl fal)), (au, .inl (cI, 100, .inl fau)), (ao, .inl (cI, 100, .inl fao)), (ar, .inr (3, [.int (nI (Ra)), .ref aRn, .ref aRp])), (aw, .inr (3, [.int (nI (Wa)), .ref aWn, .ref aWp])), (qt, .inr (7, [.int (nI (z)), .ref tb, .int tk, .int (nI (s9)), .int (nI (x9)), .int (nI (v9)), .int t9])), (qf, .inl (cI, 7, .inl ff)), (g0, .inr (9, [.ref m_ys, .ref m_yk, .ref m_yo, .ref m_yt, .int b0, .ref m_yfa, .ref m_yfe, .int m_mL, .int m_mS, .int m_mM, .ref m_yro, .ref m_yhe, .ref m_ygr, .int m_mF, .int m_mC, .int m_mY, .ref m_yta, .int (nI (z)), .int (nI (m_mf)), .int (nI (m_mt)), .int m_mv, .int m_mw, .ref m_ywa, .ref m_ybi, .ref m_ysi, .ref m_ynu, .ref m_ymo])), (m_ys, .inl (cI, 449, .inl m_ms)), (m_yt, .inl (cI, 7, .inl m_mq))] ++ tl) H) (hD : va_D A ([(h0, .inr (8, [.ref qh, .ref qk, .ref qd, .int b0, .ref qa, .ref qm, .ref qs, .ref qp, .ref ql, .ref qt, .ref qz, .ref qf])), (qh, .inr (1, [.int (nI (Pa)), .ref ae, .ref al, .ref au, .ref ao, .ref ar, .ref ak, .ref aw, .ref att, .ref ass])), (ae, .inl (cI, 10, .inl fae)), (al, .inl (cI, 100, .inl fal)), (au, .inl (cI, 100, .inl fau)), (ao, .inl (cI, 100, .inl fao)), (ar, .inr (3, [.int (nI (Ra)), .ref aRn, .ref aRp])), (aw, .inr (3, [.int (nI (Wa)), .ref aWn, .ref aWp])), (qt, .inr (7, [.int (nI (z)), .ref tb, .int tk, .int (nI (s9)), .int (nI (x9)), .int (nI (v9)), .int t9])), (qf, .inl (cI, 7, .inl ff)), (g0, .inr (9, [.ref m_ys, .ref m_yk, .ref m_yo, .ref m_yt, .int b0, .ref m_yfa, .ref m_yfe, .int m_mL, .int m_mS, .int m_mM, .ref m_yro, .ref m_yhe, .ref m_ygr, .int m_mF, .int m_mC, .int m_mY, .ref m_yta, .int (nI (z)), .int (nI (m_mf)), .int (nI (m_mt)), .int m_mv, .int m_mw, .ref m_ywa, .ref m_ybi, .ref m_ysi, .ref m_ynu, .ref m_ymo])), (m_ys, .inl (cI, 449, .inl m_ms)), (m_yt, .inl (cI, 7, .inl m_mq))] ++ tl)) (hP0 : Pa ≤ 10) (hR : Ra ≤ 8) (hWa : Wa ≤ 8) (hz : z ≤ 120) (hs9 : s9 ≤ 120) (hx9 : x9 ≤ 120) (hv9 : v9 ≤ 10000) (m_hs0 : m_ms 0 = nI m_P) (m_hs1 : m_ms 1 = nI m_Rn) (m_hs2 : m_ms 2 = nI m_Wn) (m_hsS : SI m_ms) (m_hsM : MI m_ms) (m_hsp : m_P ≤ 10) (m_hsr : m_Rn ≤ 8) (m_hsw : m_Wn ≤ 8) (m_hsR : RI m_Rn m_ms) (hS : va_S A s.heap H locs) (hl : lv_has ls 4 [(3, .int (nI i)), (2, .ref g0), (1, .ref h0), (0, .ref b)]) (kkx : ∀ (H : Heap) (locs : List Loc) (ls : Array Slot) (ff_n : Nat → Int32) (m_mq_n : Nat → Int32), va_P D vwCl ([(h0, .inr (8, [.ref qh, .ref qk, .ref qd, .int b0, .ref qa, .ref qm, .ref qs, .ref qp, .ref ql, .ref qt, .ref qz, .ref qf])), (qh, .inr (1, [.int (nI (Pa)), .ref ae, .ref al, .ref au, .ref ao, .ref ar, .ref ak, .ref aw, .ref att, .ref ass])), (ae, .inl (cI, 10, .inl fae)), (al, .inl (cI, 100, .inl fal)), (au, .inl (cI, 100, .inl fau)), (ao, .inl (cI, 100, .inl fao)), (ar, .inr (3, [.int (nI (Ra)), .ref aRn, .ref aRp])), (aw, .inr (3, [.int (nI (Wa)), .ref aWn, .ref aWp])), (qt, .inr (7, [.int (nI (z)), .ref tb, .int tk, .int (nI (s9)), .int (nI (x9)), .int (nI (v9)), .int t9])), (qf, .inl (cI, 7, .inl ff_n)), (g0, .inr (9, [.ref m_ys, .ref m_yk, .ref m_yo, .ref m_yt, .int b0, .ref m_yfa, .ref m_yfe, .int m_mL, .int m_mS, .int m_mM, .ref m_yro, .ref m_yhe, .ref m_ygr, .int m_mF, .int m_mC, .int m_mY, .ref m_yta, .int (nI (z)), .int (nI (m_mf)), .int (nI (m_mt)), .int m_mv, .int m_mw, .ref m_ywa, .ref m_ybi, .ref m_ysi, .ref m_ynu, .ref m_ymo])), (m_ys, .inl (cI, 449, .inl m_ms)), (m_yt, .inl (cI, 7, .inl m_mq_n))] ++ tl) H → va_D A ([(h0, .inr (8, [.ref qh, .ref qk, .ref qd, .int b0, .ref qa, .ref qm, .ref qs, .ref qp, .ref ql, .ref qt, .ref qz, .ref qf])), (qh, .inr (1, [.int (nI (Pa)), .ref ae, .ref al, .ref au, .ref ao, .ref ar, .ref ak, .ref aw, .ref att, .ref ass])), (ae, .inl (cI, 10, .inl fae)), (al, .inl (cI, 100, .inl fal)), (au, .inl (cI, 100, .inl fau)), (ao, .inl (cI, 100, .inl fao)), (ar, .inr (3, [.int (nI (Ra)), .ref aRn, .ref aRp])), (aw, .inr (3, [.int (nI (Wa)), .ref aWn, .ref aWp])), (qt, .inr (7, [.int (nI (z)), .ref tb, .int tk, .int (nI (s9)), .int (nI (x9)), .int (nI (v9)), .int t9])), (qf, .inl (cI, 7, .inl ff_n)), (g0, .inr (9, [.ref m_ys, .ref m_yk, .ref m_yo, .ref m_yt, .int b0, .ref m_yfa, .ref m_yfe, .int m_mL, .int m_mS, .int m_mM, .ref m_yro, .ref m_yhe, .ref m_ygr, .int m_mF, .int m_mC, .int m_mY, .ref m_yta, .int (nI (z)), .int (nI (m_mf)), .int (nI (m_mt)), .int m_mv, .int m_mw, .ref m_ywa, .ref m_ybi, .ref m_ysi, .ref m_ynu, .ref m_ymo])), (m_ys, .inl (cI, 449, .inl m_ms)), (m_yt, .inl (cI, 7, .inl m_mq_n))] ++ tl) → va_S A s.heap H locs → lv_has ls 4 [(3, .int (nI i)), (2, .ref g0), (1, .ref h0), (0, .ref b)] → W p l e room_1 s m #[Value.ref b] below meth c H locs 82 4273 (lw_Z below #[Value.ref b] s) (F0 m 1483 ls [])) : W p l e room_1 s m #[Value.ref b] below meth c H locs 82 4273 (lw_Z below #[Value.ref b] s) (F0 m 1437 ls []) := by
  have hx := hF.1
  have hb := hF.2.1
  have hml := hF.2.2.1
  have hown := hF.2.2.2.1
  have hu : ∀ w ∈ wsU, w.before _ s = true := fun w h => hF.2.2.2.2 w (List.mem_cons_of_mem _ h)
  refine lv_aload_n hx hb dL_law_1437 rfl (lv_at hl 2 rfl) ?_
  refine lv_aload_n hx hb dL_law_1438 rfl (lv_at hl 3 rfl) ?_
  refine lv_iload_n hx hb dL_law_1439 rfl (lv_at hl 0 rfl) ?_
  refine lv_iconst (v := 1) hx hb dL_law_1440 (by decide) ?_
  refine lv_iadd hx hb dL_law_1441 ?_
  refine xl_i (y := nI (i + 1)) (nI_add i 1) ?_
  refine va_sld hx hb hX hbl hbA hS (x_si (k := 1) (by decide) hi hL) dL_law_1442 ?_
  refine xl_i (y := xs (i + 1)) (congrArg xs (x_sc (k := 1) (by decide) hi hL)) ?_
  refine xc_ViT (wr := [(g0, .inr (9, [.ref m_ys, .ref m_yk, .ref m_yo, .ref m_yt, .int b0, .ref m_yfa, .ref m_yfe, .int m_mL, .int m_mS, .int m_mM, .ref m_yro, .ref m_yhe, .ref m_ygr, .int m_mF, .int m_mC, .int m_mY, .ref m_yta, .int (nI (z)), .int (nI (m_mf)), .int (nI (m_mt)), .int m_mv, .int m_mw, .ref m_ywa, .ref m_ybi, .ref m_ysi, .ref m_ynu, .ref m_ymo])), (m_ys, .inl (cI, 449, .inl m_ms)), (m_yt, .inl (cI, 7, .inl m_mq))]) hF (c_X8_count l D cI cJ cZ cS ta sa sv H.size h0 qh qk qd b0 qa qm qs qp ql qt qz qf Pa ae al au ao ar ak aw att ass fae fal fau fao Ra aRn aRp Wa aWn aWp z tb tk s9 x9 v9 t9 ff (xs (i + 1)) hP0) kv_L_191 ⟨rfl, rfl, Nat.le_of_ble_eq_true rfl, Nat.le_of_ble_eq_true rfl⟩ ⟨Nat.le_of_ble_eq_true rfl, Nat.le_of_ble_eq_true rfl⟩ hK hN hZ hP hD hS hA [0, 1, 2, 3, 4, 5, 6, 7, 8, 9] [10, 11, 12] rfl rfl rfl rfl (by decide) 0 rfl rfl rfl rfl hl.1 rfl (Nat.le_of_ble_eq_true rfl) dL_law_1443 (fun r_1 u_r_1 H locs hw_r_1 hP hD hS => ?_)
  obtain ⟨f2_2, rfl⟩ : ∃ z, z = u_r_1 := ⟨_, rfl⟩
  try dsimp only at hw_r_1
  have hP : va_P D vwCl ([(g0, .inr (9, [.ref m_ys, .ref m_yk, .ref m_yo, .ref m_yt, .int b0, .ref m_yfa, .ref m_yfe, .int m_mL, .int m_mS, .int m_mM, .ref m_yro, .ref m_yhe, .ref m_ygr, .int m_mF, .int m_mC, .int m_mY, .ref m_yta, .int (nI (z)), .int (nI (m_mf)), .int (nI (m_mt)), .int m_mv, .int m_mw, .ref m_ywa, .ref m_ybi, .ref m_ysi, .ref m_ynu, .ref m_ymo])), (m_ys, .inl (cI, 449, .inl m_ms)), (m_yt, .inl (cI, 7, .inl m_mq)), (h0, .inr (8, [.ref qh, .ref qk, .ref qd, .int b0, .ref qa, .ref qm, .ref qs, .ref qp, .ref ql, .ref qt, .ref qz, .ref qf])), (qh, .inr (1, [.int (nI (Pa)), .ref ae, .ref al, .ref au, .ref ao, .ref ar, .ref ak, .ref aw, .ref att, .ref ass])), (ae, .inl (cI, 10, .inl fae)), (al, .inl (cI, 100, .inl fal)), (au, .inl (cI, 100, .inl fau)), (ao, .inl (cI, 100, .inl fao)), (ar, .inr (3, [.int (nI (Ra)), .ref aRn, .ref aRp])), (aw, .inr (3, [.int (nI (Wa)), .ref aWn, .ref aWp])), (qt, .inr (7, [.int (nI (z)), .ref tb, .int tk, .int (nI (s9)), .int (nI (x9)), .int (nI (v9)), .int t9])), (qf, .inl (cI, 7, .inl f2_2))] ++ tl) H := hP
  have hD : va_D A ([(g0, .inr (9, [.ref m_ys, .ref m_yk, .ref m_yo, .ref m_yt, .int b0, .ref m_yfa, .ref m_yfe, .int m_mL, .int m_mS, .int m_mM, .ref m_yro, .ref m_yhe, .ref m_ygr, .int m_mF, .int m_mC, .int m_mY, .ref m_yta, .int (nI (z)), .int (nI (m_mf)), .int (nI (m_mt)), .int m_mv, .int m_mw, .ref m_ywa, .ref m_ybi, .ref m_ysi, .ref m_ynu, .ref m_ymo])), (m_ys, .inl (cI, 449, .inl m_ms)), (m_yt, .inl (cI, 7, .inl m_mq)), (h0, .inr (8, [.ref qh, .ref qk, .ref qd, .int b0, .ref qa, .ref qm, .ref qs, .ref qp, .ref ql, .ref qt, .ref qz, .ref qf])), (qh, .inr (1, [.int (nI (Pa)), .ref ae, .ref al, .ref au, .ref ao, .ref ar, .ref ak, .ref aw, .ref att, .ref ass])), (ae, .inl (cI, 10, .inl fae)), (al, .inl (cI, 100, .inl fal)), (au, .inl (cI, 100, .inl fau)), (ao, .inl (cI, 100, .inl fao)), (ar, .inr (3, [.int (nI (Ra)), .ref aRn, .ref aRp])), (aw, .inr (3, [.int (nI (Wa)), .ref aWn, .ref aWp])), (qt, .inr (7, [.int (nI (z)), .ref tb, .int tk, .int (nI (s9)), .int (nI (x9)), .int (nI (v9)), .int t9])), (qf, .inl (cI, 7, .inl f2_2))] ++ tl) := hD
  refine lv_pop hx hb dL_law_1446 rfl ?_
  refine lv_aload_n hx hb dL_law_1447 rfl (lv_at hl 1 rfl) ?_
  refine lv_aload_n hx hb dL_law_1448 rfl (lv_at hl 3 rfl) ?_
  refine lv_iload_n hx hb dL_law_1449 rfl (lv_at hl 0 rfl) ?_
  refine lv_iconst (v := 1) hx hb dL_law_1450 (by decide) ?_
  refine lv_iadd hx hb dL_law_1451 ?_
  refine xl_i (y := nI (i + 1)) (nI_add i 1) ?_
  refine va_sld hx hb hX hbl hbA hS (x_si (k := 1) (by decide) hi hL) dL_law_1452 ?_
  refine xl_i (y := xs (i + 1)) (congrArg xs (x_sc (k := 1) (by decide) hi hL)) ?_
  refine xc_ViT (wr := [(h0, .inr (8, [.ref qh, .ref qk, .ref qd, .int b0, .ref qa, .ref qm, .ref qs, .ref qp, .ref ql, .ref qt, .ref qz, .ref qf])), (qh, .inr (1, [.int (nI (Pa)), .ref ae, .ref al, .ref au, .ref ao, .ref ar, .ref ak, .ref aw, .ref att, .ref ass])), (ae, .inl (cI, 10, .inl fae)), (al, .inl (cI, 100, .inl fal)), (au, .inl (cI, 100, .inl fau)), (ao, .inl (cI, 100, .inl fao)), (ar, .inr (3, [.int (nI (Ra)), .ref aRn, .ref aRp])), (aw, .inr (3, [.int (nI (Wa)), .ref aWn, .ref aWp])), (qt, .inr (7, [.int (nI (z)), .ref tb, .int tk, .int (nI (s9)), .int (nI (x9)), .int (nI (v9)), .int t9])), (qf, .inl (cI, 7, .inl f2_2))]) hF (c_X9_count l D cI cJ cZ cS ta sa sv H.size g0 m_ys m_yk m_yo m_yt b0 m_yfa m_yfe m_mL m_mS m_mM m_yro m_yhe m_ygr m_mF m_mC m_mY m_yta z m_mf m_mt m_mv m_mw m_ywa m_ybi m_ysi m_ynu m_ymo m_ms m_mq m_P m_Rn m_Wn (xs (i + 1)) hz m_hs0 m_hs1 m_hs2 m_hsS m_hsM m_hsp m_hsr m_hsw m_hsR) kv_L_194 ⟨rfl, rfl, Nat.le_of_ble_eq_true rfl, Nat.le_of_ble_eq_true rfl⟩ ⟨Nat.le_of_ble_eq_true rfl, Nat.le_of_ble_eq_true rfl⟩ hK hN hZ hP hD hS hA [0, 1, 2] [3, 4, 5, 6, 7, 8, 9, 10, 11, 12] rfl rfl rfl rfl (by decide) 0 rfl rfl rfl rfl hl.1 rfl (Nat.le_of_ble_eq_true rfl) dL_law_1453 (fun r_3 u_r_3 H locs hw_r_3 hP hD hS => ?_)
  obtain ⟨mq2_4, rfl⟩ : ∃ z, z = u_r_3 := ⟨_, rfl⟩
  try dsimp only at hw_r_3
  have hP : va_P D vwCl ([(h0, .inr (8, [.ref qh, .ref qk, .ref qd, .int b0, .ref qa, .ref qm, .ref qs, .ref qp, .ref ql, .ref qt, .ref qz, .ref qf])), (qh, .inr (1, [.int (nI (Pa)), .ref ae, .ref al, .ref au, .ref ao, .ref ar, .ref ak, .ref aw, .ref att, .ref ass])), (ae, .inl (cI, 10, .inl fae)), (al, .inl (cI, 100, .inl fal)), (au, .inl (cI, 100, .inl fau)), (ao, .inl (cI, 100, .inl fao)), (ar, .inr (3, [.int (nI (Ra)), .ref aRn, .ref aRp])), (aw, .inr (3, [.int (nI (Wa)), .ref aWn, .ref aWp])), (qt, .inr (7, [.int (nI (z)), .ref tb, .int tk, .int (nI (s9)), .int (nI (x9)), .int (nI (v9)), .int t9])), (qf, .inl (cI, 7, .inl f2_2)), (g0, .inr (9, [.ref m_ys, .ref m_yk, .ref m_yo, .ref m_yt, .int b0, .ref m_yfa, .ref m_yfe, .int m_mL, .int m_mS, .int m_mM, .ref m_yro, .ref m_yhe, .ref m_ygr, .int m_mF, .int m_mC, .int m_mY, .ref m_yta, .int (nI (z)), .int (nI (m_mf)), .int (nI (m_mt)), .int m_mv, .int m_mw, .ref m_ywa, .ref m_ybi, .ref m_ysi, .ref m_ynu, .ref m_ymo])), (m_ys, .inl (cI, 449, .inl m_ms)), (m_yt, .inl (cI, 7, .inl mq2_4))] ++ tl) H := hP
  have hD : va_D A ([(h0, .inr (8, [.ref qh, .ref qk, .ref qd, .int b0, .ref qa, .ref qm, .ref qs, .ref qp, .ref ql, .ref qt, .ref qz, .ref qf])), (qh, .inr (1, [.int (nI (Pa)), .ref ae, .ref al, .ref au, .ref ao, .ref ar, .ref ak, .ref aw, .ref att, .ref ass])), (ae, .inl (cI, 10, .inl fae)), (al, .inl (cI, 100, .inl fal)), (au, .inl (cI, 100, .inl fau)), (ao, .inl (cI, 100, .inl fao)), (ar, .inr (3, [.int (nI (Ra)), .ref aRn, .ref aRp])), (aw, .inr (3, [.int (nI (Wa)), .ref aWn, .ref aWp])), (qt, .inr (7, [.int (nI (z)), .ref tb, .int tk, .int (nI (s9)), .int (nI (x9)), .int (nI (v9)), .int t9])), (qf, .inl (cI, 7, .inl f2_2)), (g0, .inr (9, [.ref m_ys, .ref m_yk, .ref m_yo, .ref m_yt, .int b0, .ref m_yfa, .ref m_yfe, .int m_mL, .int m_mS, .int m_mM, .ref m_yro, .ref m_yhe, .ref m_ygr, .int m_mF, .int m_mC, .int m_mY, .ref m_yta, .int (nI (z)), .int (nI (m_mf)), .int (nI (m_mt)), .int m_mv, .int m_mw, .ref m_ywa, .ref m_ybi, .ref m_ysi, .ref m_ynu, .ref m_ymo])), (m_ys, .inl (cI, 449, .inl m_ms)), (m_yt, .inl (cI, 7, .inl mq2_4))] ++ tl) := hD
  refine lv_pop hx hb dL_law_1456 rfl ?_
  refine lv_goto (tgt := 1483) hx hb dL_law_1457 (by decide) ?_
  exact kkx _ _ _ f2_2 mq2_4 (xt_P hP [0, 1, 2, 3, 4, 5, 6, 7, 8, 9, 10, 11, 12] rfl) (xt_D hD [0, 1, 2, 3, 4, 5, 6, 7, 8, 9, 10, 11, 12] (by decide +kernel) rfl)  hS hl
set_option maxHeartbeats 4000000 in
set_option maxRecDepth 100000 in
theorem law_43 {p : Program} {e : Env} {s : State} {m : MethodId} {below : List Frame} {meth : Method} {c : Code} (l : Launch) (D : va_G) (cI cJ cZ cS : ClassId) (ta : Nat) (sa sv : Nat → Nat) {b L : Nat} {xs : Nat → Int32} {A : Nat → Prop} (hL : L ≤ 3072) (hF : CallFix p m c cL_law 4 s #[Value.ref b] (Cond.initialized RX8 :: wsU) RL) (hr : meth.sig.returnType = ret) (hlk : meth.locks = false) (hK : va_K D vwCl (xT cI cJ cZ cS) s) (hN : XN sa s) (hX : va_X b L xs s s.heap) (hbl : b < s.heap.size) (hA : ∀ q : Nat, s.heap.size ≤ q → A q) (hbA : ¬ A b) (hAs : ∀ q, A q → s.heap.size ≤ q) (hZ : ST ta sa sv A s s.heap) (h0 g0 i : Nat) (hi : i + 6 ≤ L) (qh : Nat) (qk : Nat) (qd : Nat) (b0 : Int32) (qa : Nat) (qm : Nat) (qs : Nat) (qp : Nat) (ql : Nat) (qt : Nat) (qz : Nat) (qf : Nat) (ff : Nat → Int32) (m_ys : Nat) (m_yk : Nat) (m_yo : Nat) (m_yt : Nat) (m_yfa : Nat) (m_yfe : Nat) (m_mL : Int32) (m_mS : Int32) (m_mM : Int32) (m_yro : Nat) (m_yhe : Nat) (m_ygr : Nat) (m_mF : Int32) (m_mC : Int32) (m_mY : Int32) (m_yta : Nat) (z : Nat) (m_mf : Nat) (m_mt : Nat) (m_mv : Int32) (m_mw : Int32) (m_ywa : Nat) (m_ybi : Nat) (m_ysi : Nat) (m_ynu : Nat) (m_ymo : Nat) (m_mq : Nat → Int32) {tl : va_W} {H : Heap} {locs : List Loc} {ls : Array Slot} (hP : va_P D vwCl ([(h0, .inr (8, [.ref qh, .ref qk, .ref qd, .int b0, .ref qa, .ref qm, .ref qs, .ref qp, .ref ql, .ref qt, .ref qz, .ref qf])), (qf, .inl (cI, 7, .inl ff)), (g0, .inr (9, [.ref m_ys, .ref m_yk, .ref m_yo, .ref m_yt, .int b0, .ref m_yfa, .ref m_yfe, .int m_mL, .int m_mS, .int m_mM, .ref m_yro, .ref m_yhe, .ref m_ygr, .int m_mF, .int m_mC, .int m_mY, .ref m_yta, .int (nI (z)), .int (nI (m_mf)), .int (nI (m_mt)), .int m_mv, .int m_mw, .ref m_ywa, .ref m_ybi, .ref m_ysi, .ref m_ynu, .ref m_ymo])), (m_yt, .inl (cI, 7, .inl m_mq))] ++ tl) H) (hD : va_D A ([(h0, .inr (8, [.ref qh, .ref qk, .ref qd, .int b0, .ref qa, .ref qm, .ref qs, .ref qp, .ref ql, .ref qt, .ref qz, .ref qf])), (qf, .inl (cI, 7, .inl ff)), (g0, .inr (9, [.ref m_ys, .ref m_yk, .ref m_yo, .ref m_yt, .int b0, .ref m_yfa, .ref m_yfe, .int m_mL, .int m_mS, .int m_mM, .ref m_yro, .ref m_yhe, .ref m_ygr, .int m_mF, .int m_mC, .int m_mY, .ref m_yta, .int (nI (z)), .int (nI (m_mf)), .int (nI (m_mt)), .int m_mv, .int m_mw, .ref m_ywa, .ref m_ybi, .ref m_ysi, .ref m_ynu, .ref m_ymo])), (m_yt, .inl (cI, 7, .inl m_mq))] ++ tl)) (hz : z ≤ 120) (hS : va_S A s.heap H locs) (hl : lv_has ls 4 [(3, .int (nI i)), (2, .ref g0), (1, .ref h0), (0, .ref b)]) (kkx : ∀ (H : Heap) (locs : List Loc) (ls : Array Slot) (ff_n : Nat → Int32) (m_mq_n : Nat → Int32), va_P D vwCl ([(h0, .inr (8, [.ref qh, .ref qk, .ref qd, .int b0, .ref qa, .ref qm, .ref qs, .ref qp, .ref ql, .ref qt, .ref qz, .ref qf])), (qf, .inl (cI, 7, .inl ff_n)), (g0, .inr (9, [.ref m_ys, .ref m_yk, .ref m_yo, .ref m_yt, .int b0, .ref m_yfa, .ref m_yfe, .int m_mL, .int m_mS, .int m_mM, .ref m_yro, .ref m_yhe, .ref m_ygr, .int m_mF, .int m_mC, .int m_mY, .ref m_yta, .int (nI (z)), .int (nI (m_mf)), .int (nI (m_mt)), .int m_mv, .int m_mw, .ref m_ywa, .ref m_ybi, .ref m_ysi, .ref m_ynu, .ref m_ymo])), (m_yt, .inl (cI, 7, .inl m_mq_n))] ++ tl) H → va_D A ([(h0, .inr (8, [.ref qh, .ref qk, .ref qd, .int b0, .ref qa, .ref qm, .ref qs, .ref qp, .ref ql, .ref qt, .ref qz, .ref qf])), (qf, .inl (cI, 7, .inl ff_n)), (g0, .inr (9, [.ref m_ys, .ref m_yk, .ref m_yo, .ref m_yt, .int b0, .ref m_yfa, .ref m_yfe, .int m_mL, .int m_mS, .int m_mM, .ref m_yro, .ref m_yhe, .ref m_ygr, .int m_mF, .int m_mC, .int m_mY, .ref m_yta, .int (nI (z)), .int (nI (m_mf)), .int (nI (m_mt)), .int m_mv, .int m_mw, .ref m_ywa, .ref m_ybi, .ref m_ysi, .ref m_ynu, .ref m_ymo])), (m_yt, .inl (cI, 7, .inl m_mq_n))] ++ tl) → va_S A s.heap H locs → lv_has ls 4 [(3, .int (nI i)), (2, .ref g0), (1, .ref h0), (0, .ref b)] → W p l e room_1 s m #[Value.ref b] below meth c H locs 82 4273 (lw_Z below #[Value.ref b] s) (F0 m 1483 ls [])) : W p l e room_1 s m #[Value.ref b] below meth c H locs 82 4273 (lw_Z below #[Value.ref b] s) (F0 m 1460 ls []) := by
  have hx := hF.1
  have hb := hF.2.1
  have hml := hF.2.2.1
  have hown := hF.2.2.2.1
  have hu : ∀ w ∈ wsU, w.before _ s = true := fun w h => hF.2.2.2.2 w (List.mem_cons_of_mem _ h)
  refine lv_aload_n hx hb dL_law_1460 rfl (lv_at hl 2 rfl) ?_
  refine lv_aload_n hx hb dL_law_1461 rfl (lv_at hl 3 rfl) ?_
  refine lv_iload_n hx hb dL_law_1462 rfl (lv_at hl 0 rfl) ?_
  refine lv_iconst (v := 1) hx hb dL_law_1463 (by decide) ?_
  refine lv_iadd hx hb dL_law_1464 ?_
  refine xl_i (y := nI (i + 1)) (nI_add i 1) ?_
  refine va_sld hx hb hX hbl hbA hS (x_si (k := 1) (by decide) hi hL) dL_law_1465 ?_
  refine xl_i (y := xs (i + 1)) (congrArg xs (x_sc (k := 1) (by decide) hi hL)) ?_
  refine xc_ViT (wr := [(g0, .inr (9, [.ref m_ys, .ref m_yk, .ref m_yo, .ref m_yt, .int b0, .ref m_yfa, .ref m_yfe, .int m_mL, .int m_mS, .int m_mM, .ref m_yro, .ref m_yhe, .ref m_ygr, .int m_mF, .int m_mC, .int m_mY, .ref m_yta, .int (nI (z)), .int (nI (m_mf)), .int (nI (m_mt)), .int m_mv, .int m_mw, .ref m_ywa, .ref m_ybi, .ref m_ysi, .ref m_ynu, .ref m_ymo])), (m_yt, .inl (cI, 7, .inl m_mq))]) hF (c_X8_status l D cI cJ cZ cS ta sa sv H.size h0 qh qk qd b0 qa qm qs qp ql qt qz qf ff (xs (i + 1)) ) kv_L_195 ⟨rfl, rfl, Nat.le_of_ble_eq_true rfl, Nat.le_of_ble_eq_true rfl⟩ ⟨Nat.le_of_ble_eq_true rfl, Nat.le_of_ble_eq_true rfl⟩ hK hN hZ hP hD hS hA [0, 1] [2, 3] rfl rfl rfl rfl (by decide) 0 rfl rfl rfl rfl hl.1 rfl (Nat.le_of_ble_eq_true rfl) dL_law_1466 (fun r_1 u_r_1 H locs hw_r_1 hP hD hS => ?_)
  obtain ⟨f2_2, rfl⟩ : ∃ z, z = u_r_1 := ⟨_, rfl⟩
  try dsimp only at hw_r_1
  have hP : va_P D vwCl ([(g0, .inr (9, [.ref m_ys, .ref m_yk, .ref m_yo, .ref m_yt, .int b0, .ref m_yfa, .ref m_yfe, .int m_mL, .int m_mS, .int m_mM, .ref m_yro, .ref m_yhe, .ref m_ygr, .int m_mF, .int m_mC, .int m_mY, .ref m_yta, .int (nI (z)), .int (nI (m_mf)), .int (nI (m_mt)), .int m_mv, .int m_mw, .ref m_ywa, .ref m_ybi, .ref m_ysi, .ref m_ynu, .ref m_ymo])), (m_yt, .inl (cI, 7, .inl m_mq)), (h0, .inr (8, [.ref qh, .ref qk, .ref qd, .int b0, .ref qa, .ref qm, .ref qs, .ref qp, .ref ql, .ref qt, .ref qz, .ref qf])), (qf, .inl (cI, 7, .inl f2_2))] ++ tl) H := hP
  have hD : va_D A ([(g0, .inr (9, [.ref m_ys, .ref m_yk, .ref m_yo, .ref m_yt, .int b0, .ref m_yfa, .ref m_yfe, .int m_mL, .int m_mS, .int m_mM, .ref m_yro, .ref m_yhe, .ref m_ygr, .int m_mF, .int m_mC, .int m_mY, .ref m_yta, .int (nI (z)), .int (nI (m_mf)), .int (nI (m_mt)), .int m_mv, .int m_mw, .ref m_ywa, .ref m_ybi, .ref m_ysi, .ref m_ynu, .ref m_ymo])), (m_yt, .inl (cI, 7, .inl m_mq)), (h0, .inr (8, [.ref qh, .ref qk, .ref qd, .int b0, .ref qa, .ref qm, .ref qs, .ref qp, .ref ql, .ref qt, .ref qz, .ref qf])), (qf, .inl (cI, 7, .inl f2_2))] ++ tl) := hD
  refine lv_pop hx hb dL_law_1469 rfl ?_
  refine lv_aload_n hx hb dL_law_1470 rfl (lv_at hl 1 rfl) ?_
  refine lv_aload_n hx hb dL_law_1471 rfl (lv_at hl 3 rfl) ?_
  refine lv_iload_n hx hb dL_law_1472 rfl (lv_at hl 0 rfl) ?_
  refine lv_iconst (v := 1) hx hb dL_law_1473 (by decide) ?_
  refine lv_iadd hx hb dL_law_1474 ?_
  refine xl_i (y := nI (i + 1)) (nI_add i 1) ?_
  refine va_sld hx hb hX hbl hbA hS (x_si (k := 1) (by decide) hi hL) dL_law_1475 ?_
  refine xl_i (y := xs (i + 1)) (congrArg xs (x_sc (k := 1) (by decide) hi hL)) ?_
  refine xc_ViT (wr := [(h0, .inr (8, [.ref qh, .ref qk, .ref qd, .int b0, .ref qa, .ref qm, .ref qs, .ref qp, .ref ql, .ref qt, .ref qz, .ref qf])), (qf, .inl (cI, 7, .inl f2_2))]) hF (c_X9_status l D cI cJ cZ cS ta sa sv H.size g0 m_ys m_yk m_yo m_yt b0 m_yfa m_yfe m_mL m_mS m_mM m_yro m_yhe m_ygr m_mF m_mC m_mY m_yta z m_mf m_mt m_mv m_mw m_ywa m_ybi m_ysi m_ynu m_ymo m_mq (xs (i + 1)) ) kv_L_198 ⟨rfl, rfl, Nat.le_of_ble_eq_true rfl, Nat.le_of_ble_eq_true rfl⟩ ⟨Nat.le_of_ble_eq_true rfl, Nat.le_of_ble_eq_true rfl⟩ hK hN hZ hP hD hS hA [0, 1] [2, 3] rfl rfl rfl rfl (by decide) 0 rfl rfl rfl rfl hl.1 rfl (Nat.le_of_ble_eq_true rfl) dL_law_1476 (fun r_3 u_r_3 H locs hw_r_3 hP hD hS => ?_)
  obtain ⟨mq2_4, rfl⟩ : ∃ z, z = u_r_3 := ⟨_, rfl⟩
  try dsimp only at hw_r_3
  have hP : va_P D vwCl ([(h0, .inr (8, [.ref qh, .ref qk, .ref qd, .int b0, .ref qa, .ref qm, .ref qs, .ref qp, .ref ql, .ref qt, .ref qz, .ref qf])), (qf, .inl (cI, 7, .inl f2_2)), (g0, .inr (9, [.ref m_ys, .ref m_yk, .ref m_yo, .ref m_yt, .int b0, .ref m_yfa, .ref m_yfe, .int m_mL, .int m_mS, .int m_mM, .ref m_yro, .ref m_yhe, .ref m_ygr, .int m_mF, .int m_mC, .int m_mY, .ref m_yta, .int (nI (z)), .int (nI (m_mf)), .int (nI (m_mt)), .int m_mv, .int m_mw, .ref m_ywa, .ref m_ybi, .ref m_ysi, .ref m_ynu, .ref m_ymo])), (m_yt, .inl (cI, 7, .inl mq2_4))] ++ tl) H := hP
  have hD : va_D A ([(h0, .inr (8, [.ref qh, .ref qk, .ref qd, .int b0, .ref qa, .ref qm, .ref qs, .ref qp, .ref ql, .ref qt, .ref qz, .ref qf])), (qf, .inl (cI, 7, .inl f2_2)), (g0, .inr (9, [.ref m_ys, .ref m_yk, .ref m_yo, .ref m_yt, .int b0, .ref m_yfa, .ref m_yfe, .int m_mL, .int m_mS, .int m_mM, .ref m_yro, .ref m_yhe, .ref m_ygr, .int m_mF, .int m_mC, .int m_mY, .ref m_yta, .int (nI (z)), .int (nI (m_mf)), .int (nI (m_mt)), .int m_mv, .int m_mw, .ref m_ywa, .ref m_ybi, .ref m_ysi, .ref m_ynu, .ref m_ymo])), (m_yt, .inl (cI, 7, .inl mq2_4))] ++ tl) := hD
  refine lv_pop hx hb dL_law_1479 rfl ?_
  refine lv_goto (tgt := 1483) hx hb dL_law_1480 (by decide) ?_
  exact kkx _ _ _ f2_2 mq2_4 (xt_P hP [0, 1, 2, 3] rfl) (xt_D hD [0, 1, 2, 3] (by decide +kernel) rfl)  hS hl
