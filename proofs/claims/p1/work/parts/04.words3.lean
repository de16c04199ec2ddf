theorem w1120 : (Jvm.Cond.fieldLink "ResidualTreesModel" (223 : Nat) "ResidualTreesModel" "choiceBits" "I") ∈ TB := tb_5 160 rfl rfl
theorem w1121 : (Jvm.Cond.fieldLink "ResidualTreesModel" (196 : Nat) "ResidualTreesModel" "trees" "I") ∈ TB := tb_5 161 rfl rfl
theorem w1122 : (Jvm.Cond.fieldLink "ResidualTreesModel" (32 : Nat) "ResidualTreesModel" "nodeMany" "[I") ∈ TB := tb_5 162 rfl rfl
theorem w1123 : (Jvm.Cond.fieldLink "ResidualTreesModel" (35 : Nat) "ResidualTreesModel" "column" "[I") ∈ TB := tb_5 163 rfl rfl
theorem w1124 : (Jvm.Cond.fieldLink "ResidualTreesModel" (38 : Nat) "ResidualTreesModel" "edge" "[I") ∈ TB := tb_5 164 rfl rfl
theorem w1125 : (Jvm.Cond.fieldLink "ResidualTreesModel" (41 : Nat) "ResidualTreesModel" "toLeft" "[Z") ∈ TB := tb_5 165 rfl rfl
theorem w1126 : (Jvm.Cond.fieldLink "ResidualTreesModel" (44 : Nat) "ResidualTreesModel" "left" "[I") ∈ TB := tb_5 166 rfl rfl
theorem w1127 : (Jvm.Cond.fieldLink "ResidualTreesModel" (47 : Nat) "ResidualTreesModel" "right" "[I") ∈ TB := tb_5 167 rfl rfl
theorem w1128 : (Jvm.Cond.fieldLink "ResidualTreesModel" (50 : Nat) "ResidualTreesModel" "many" "[I") ∈ TB := tb_5 168 rfl rfl
theorem w1129 : (Jvm.Cond.fieldLink "ResidualTreesModel" (53 : Nat) "ResidualTreesModel" "deep" "[I") ∈ TB := tb_5 169 rfl rfl
theorem w1130 : (Jvm.Cond.fieldLink "ResidualTreesModel" (56 : Nat) "ResidualTreesModel" "byKinds" "[Z") ∈ TB := tb_5 170 rfl rfl
theorem w1131 : (Jvm.Cond.fieldLink "ResidualTreesModel" (60 : Nat) "ResidualTreesModel" "upper" "[I") ∈ TB := tb_5 171 rfl rfl
theorem w1132 : (Jvm.Cond.fieldLink "ResidualTreesModel" (63 : Nat) "ResidualTreesModel" "lower" "[I") ∈ TB := tb_5 172 rfl rfl
theorem w1133 : (Jvm.Cond.fieldLink "ResidualTreesModel" (66 : Nat) "ResidualTreesModel" "one" "[I") ∈ TB := tb_5 173 rfl rfl
theorem w1134 : (Jvm.Cond.fieldLink "ResidualTreesModel" (69 : Nat) "ResidualTreesModel" "two" "[I") ∈ TB := tb_5 174 rfl rfl
theorem w1135 : (Jvm.Cond.fieldLink "ResidualTreesModel" (72 : Nat) "ResidualTreesModel" "three" "[I") ∈ TB := tb_5 175 rfl rfl
theorem w1136 : (Jvm.Cond.fieldLink "ResidualTreesModel" (75 : Nat) "ResidualTreesModel" "product" "[I") ∈ TB := tb_5 176 rfl rfl
theorem w1137 : (Jvm.Cond.fieldLink "ResidualTreesModel" (78 : Nat) "ResidualTreesModel" "sumLeft" "[I") ∈ TB := tb_5 177 rfl rfl
theorem w1138 : (Jvm.Cond.fieldLink "ResidualTreesModel" (81 : Nat) "ResidualTreesModel" "sumRight" "[I") ∈ TB := tb_5 178 rfl rfl
theorem w1139 : (Jvm.Cond.fieldLink "ResidualTreesModel" (84 : Nat) "ResidualTreesModel" "gain" "[I") ∈ TB := tb_5 179 rfl rfl
theorem w1140 : (Jvm.Cond.fieldLink "ResidualTreesModel" (87 : Nat) "ResidualTreesModel" "bestGain" "[I") ∈ TB := tb_5 180 rfl rfl
theorem w1141 : (Jvm.Cond.fieldLink "ResidualTreesModel" (90 : Nat) "ResidualTreesModel" "total" "[I") ∈ TB := tb_5 181 rfl rfl
theorem w1142 : (Jvm.Cond.fieldLink "ResidualTreesModel" (93 : Nat) "ResidualTreesModel" "bestTotal" "[I") ∈ TB := tb_5 182 rfl rfl
theorem w1143 : (Jvm.Cond.fieldLink "ResidualTreesModel" (96 : Nat) "ResidualTreesModel" "scaled" "[I") ∈ TB := tb_5 183 rfl rfl
theorem w1144 : (Jvm.Cond.fieldLink "ResidualTreesModel" (99 : Nat) "ResidualTreesModel" "oneLow" "[I") ∈ TB := tb_5 184 rfl rfl
theorem w1145 : (Jvm.Cond.fieldLink "ResidualTreesModel" (102 : Nat) "ResidualTreesModel" "twoLow" "[I") ∈ TB := tb_5 185 rfl rfl
theorem w1146 : (Jvm.Cond.fieldLink "ResidualTreesModel" (105 : Nat) "ResidualTreesModel" "totalLow" "[I") ∈ TB := tb_5 186 rfl rfl
theorem w1147 : (Jvm.Cond.fieldLink "ResidualTreesModel" (108 : Nat) "ResidualTreesModel" "bestLow" "[I") ∈ TB := tb_5 187 rfl rfl
theorem w1148 : (Jvm.Cond.fieldLink "ResidualTreesModel" (111 : Nat) "ResidualTreesModel" "common" "[I") ∈ TB := tb_5 188 rfl rfl
theorem w1149 : (Jvm.Cond.fieldLink "ResidualTreesModel" (114 : Nat) "ResidualTreesModel" "restUp" "[I") ∈ TB := tb_5 189 rfl rfl
theorem w1150 : (Jvm.Cond.fieldLink "ResidualTreesModel" (117 : Nat) "ResidualTreesModel" "restLow" "[I") ∈ TB := tb_5 190 rfl rfl
theorem w1151 : (Jvm.Cond.fieldLink "ResidualTreesModel" (199 : Nat) "ResidualTreesModel" "told" "I") ∈ TB := tb_5 191 rfl rfl
theorem w1152 : (Jvm.Cond.fieldLink "ResidualTreesModel" (120 : Nat) "ResidualTreesModel" "out" "[B") ∈ TB := tb_5 192 rfl rfl
theorem w1153 : (Jvm.Cond.fieldLink "ResidualTreesModel" (124 : Nat) "ResidualTreesModel" "digits" "[B") ∈ TB := tb_5 193 rfl rfl
theorem w1154 : (Jvm.Cond.fieldLink "ResidualTreesModel" (356 : Nat) "ResidualTreesModel" "bestUnder" "I") ∈ TB := tb_5 194 rfl rfl
theorem w1155 : (Jvm.Cond.fieldLink "ResidualTreesModel" (346 : Nat) "ResidualTreesModel" "bestColumn" "I") ∈ TB := tb_5 195 rfl rfl
theorem w1156 : (Jvm.Cond.fieldLink "ResidualTreesModel" (349 : Nat) "ResidualTreesModel" "bestEdge" "I") ∈ TB := tb_5 196 rfl rfl
theorem w1157 : (Jvm.Cond.fieldLink "ResidualTreesModel" (352 : Nat) "ResidualTreesModel" "bestLeft" "Z") ∈ TB := tb_5 197 rfl rfl
theorem w1158 : (Jvm.Cond.fieldLink "ResidualTreesModel" (329 : Nat) "ResidualTreesModel" "bestSide" "J") ∈ TB := tb_5 198 rfl rfl
theorem w1159 : (Jvm.Cond.fieldLink "ResidualTreesModel" (311 : Nat) "ResidualTreesModel" "waiting" "I") ∈ TB := tb_5 199 rfl rfl
theorem w1160 : (Jvm.Cond.fieldLink "ResidualTreesModel" (127 : Nat) "ResidualTreesModel" "waitRows" "[J") ∈ TB := tb_5 200 rfl rfl
theorem w1161 : (Jvm.Cond.fieldLink "ResidualTreesModel" (131 : Nat) "ResidualTreesModel" "waitDeep" "[I") ∈ TB := tb_5 201 rfl rfl
theorem w1162 : (Jvm.Cond.fieldLink "ResidualTreesModel" (134 : Nat) "ResidualTreesModel" "waitAbove" "[I") ∈ TB := tb_5 202 rfl rfl
theorem w1163 : (Jvm.Cond.fieldLink "ResidualTreesModel" (137 : Nat) "ResidualTreesModel" "waitLeft" "[Z") ∈ TB := tb_5 203 rfl rfl
theorem w1164 : (Jvm.Cond.laysFinal "ResidualTreesModel" "ResidualTreesModel" "prime" "[I") ∈ TB := tb_5 204 rfl rfl
theorem w1165 : (Jvm.Cond.soleField "ResidualTreesModel" "prime") ∈ TB := tb_5 205 rfl rfl
theorem w1166 : (Jvm.Cond.lays "ResidualTreesModel" "ResidualTreesModel" "fault" "I") ∈ TB := tb_5 206 rfl rfl
theorem w1167 : (Jvm.Cond.soleField "ResidualTreesModel" "fault") ∈ TB := tb_5 207 rfl rfl
theorem w1168 : (Jvm.Cond.lays "ResidualTreesModel" "ResidualTreesModel" "columns" "I") ∈ TB := tb_5 208 rfl rfl
theorem w1169 : (Jvm.Cond.soleField "ResidualTreesModel" "columns") ∈ TB := tb_5 209 rfl rfl
theorem w1170 : (Jvm.Cond.lays "ResidualTreesModel" "ResidualTreesModel" "rows" "I") ∈ TB := tb_5 210 rfl rfl
theorem w1171 : (Jvm.Cond.soleField "ResidualTreesModel" "rows") ∈ TB := tb_5 211 rfl rfl
theorem w1172 : (Jvm.Cond.laysFinal "ResidualTreesModel" "ResidualTreesModel" "targets" "[I") ∈ TB := tb_5 212 rfl rfl
theorem w1173 : (Jvm.Cond.soleField "ResidualTreesModel" "targets") ∈ TB := tb_5 213 rfl rfl
theorem w1174 : (Jvm.Cond.laysFinal "ResidualTreesModel" "ResidualTreesModel" "values" "[I") ∈ TB := tb_5 214 rfl rfl
theorem w1175 : (Jvm.Cond.soleField "ResidualTreesModel" "values") ∈ TB := tb_5 215 rfl rfl
theorem w1176 : (Jvm.Cond.laysFinal "ResidualTreesModel" "ResidualTreesModel" "isKinds" "[Z") ∈ TB := tb_5 216 rfl rfl
theorem w1177 : (Jvm.Cond.soleField "ResidualTreesModel" "isKinds") ∈ TB := tb_5 217 rfl rfl
theorem w1178 : (Jvm.Cond.laysFinal "ResidualTreesModel" "ResidualTreesModel" "edges" "[I") ∈ TB := tb_5 218 rfl rfl
theorem w1179 : (Jvm.Cond.soleField "ResidualTreesModel" "edges") ∈ TB := tb_5 219 rfl rfl
theorem w1180 : (Jvm.Cond.laysFinal "ResidualTreesModel" "ResidualTreesModel" "edgeMany" "[I") ∈ TB := tb_5 220 rfl rfl
theorem w1181 : (Jvm.Cond.soleField "ResidualTreesModel" "edgeMany") ∈ TB := tb_5 221 rfl rfl
theorem w1182 : (Jvm.Cond.laysFinal "ResidualTreesModel" "ResidualTreesModel" "question" "[I") ∈ TB := tb_5 222 rfl rfl
theorem w1183 : (Jvm.Cond.soleField "ResidualTreesModel" "question") ∈ TB := tb_5 223 rfl rfl
theorem w1184 : (Jvm.Cond.lays "ResidualTreesModel" "ResidualTreesModel" "depth" "I") ∈ TB := tb_5 224 rfl rfl
theorem w1185 : (Jvm.Cond.soleField "ResidualTreesModel" "depth") ∈ TB := tb_5 225 rfl rfl
theorem w1186 : (Jvm.Cond.lays "ResidualTreesModel" "ResidualTreesModel" "least" "I") ∈ TB := tb_5 226 rfl rfl
theorem w1187 : (Jvm.Cond.soleField "ResidualTreesModel" "least") ∈ TB := tb_5 227 rfl rfl
theorem w1188 : (Jvm.Cond.lays "ResidualTreesModel" "ResidualTreesModel" "weight" "I") ∈ TB := tb_5 228 rfl rfl
theorem w1189 : (Jvm.Cond.soleField "ResidualTreesModel" "weight") ∈ TB := tb_5 229 rfl rfl
theorem w1190 : (Jvm.Cond.lays "ResidualTreesModel" "ResidualTreesModel" "up" "I") ∈ TB := tb_5 230 rfl rfl
theorem w1191 : (Jvm.Cond.soleField "ResidualTreesModel" "up") ∈ TB := tb_5 231 rfl rfl
theorem w1192 : (Jvm.Cond.lays "ResidualTreesModel" "ResidualTreesModel" "low" "I") ∈ TB := tb_5 232 rfl rfl
theorem w1193 : (Jvm.Cond.soleField "ResidualTreesModel" "low") ∈ TB := tb_5 233 rfl rfl
theorem w1194 : (Jvm.Cond.lays "ResidualTreesModel" "ResidualTreesModel" "sampleBits" "J") ∈ TB := tb_5 234 rfl rfl
theorem w1195 : (Jvm.Cond.soleField "ResidualTreesModel" "sampleBits") ∈ TB := tb_5 235 rfl rfl
theorem w1196 : (Jvm.Cond.lays "ResidualTreesModel" "ResidualTreesModel" "choiceBits" "I") ∈ TB := tb_5 236 rfl rfl
theorem w1197 : (Jvm.Cond.soleField "ResidualTreesModel" "choiceBits") ∈ TB := tb_5 237 rfl rfl
theorem w1198 : (Jvm.Cond.lays "ResidualTreesModel" "ResidualTreesModel" "trees" "I") ∈ TB := tb_5 238 rfl rfl
theorem w1199 : (Jvm.Cond.soleField "ResidualTreesModel" "trees") ∈ TB := tb_5 239 rfl rfl
theorem w1200 : (Jvm.Cond.laysFinal "ResidualTreesModel" "ResidualTreesModel" "nodeMany" "[I") ∈ TB := tb_6 0 rfl rfl
theorem w1201 : (Jvm.Cond.soleField "ResidualTreesModel" "nodeMany") ∈ TB := tb_6 1 rfl rfl
theorem w1202 : (Jvm.Cond.laysFinal "ResidualTreesModel" "ResidualTreesModel" "column" "[I") ∈ TB := tb_6 2 rfl rfl
theorem w1203 : (Jvm.Cond.soleField "ResidualTreesModel" "column") ∈ TB := tb_6 3 rfl rfl
theorem w1204 : (Jvm.Cond.laysFinal "ResidualTreesModel" "ResidualTreesModel" "edge" "[I") ∈ TB := tb_6 4 rfl rfl
theorem w1205 : (Jvm.Cond.soleField "ResidualTreesModel" "edge") ∈ TB := tb_6 5 rfl rfl
theorem w1206 : (Jvm.Cond.laysFinal "ResidualTreesModel" "ResidualTreesModel" "toLeft" "[Z") ∈ TB := tb_6 6 rfl rfl
theorem w1207 : (Jvm.Cond.soleField "ResidualTreesModel" "toLeft") ∈ TB := tb_6 7 rfl rfl
theorem w1208 : (Jvm.Cond.laysFinal "ResidualTreesModel" "ResidualTreesModel" "left" "[I") ∈ TB := tb_6 8 rfl rfl
theorem w1209 : (Jvm.Cond.soleField "ResidualTreesModel" "left") ∈ TB := tb_6 9 rfl rfl
theorem w1210 : (Jvm.Cond.laysFinal "ResidualTreesModel" "ResidualTreesModel" "right" "[I") ∈ TB := tb_6 10 rfl rfl
theorem w1211 : (Jvm.Cond.soleField "ResidualTreesModel" "right") ∈ TB := tb_6 11 rfl rfl
theorem w1212 : (Jvm.Cond.laysFinal "ResidualTreesModel" "ResidualTreesModel" "many" "[I") ∈ TB := tb_6 12 rfl rfl
theorem w1213 : (Jvm.Cond.soleField "ResidualTreesModel" "many") ∈ TB := tb_6 13 rfl rfl
theorem w1214 : (Jvm.Cond.laysFinal "ResidualTreesModel" "ResidualTreesModel" "deep" "[I") ∈ TB := tb_6 14 rfl rfl
theorem w1215 : (Jvm.Cond.soleField "ResidualTreesModel" "deep") ∈ TB := tb_6 15 rfl rfl
theorem w1216 : (Jvm.Cond.laysFinal "ResidualTreesModel" "ResidualTreesModel" "byKinds" "[Z") ∈ TB := tb_6 16 rfl rfl
theorem w1217 : (Jvm.Cond.soleField "ResidualTreesModel" "byKinds") ∈ TB := tb_6 17 rfl rfl
theorem w1218 : (Jvm.Cond.laysFinal "ResidualTreesModel" "ResidualTreesModel" "upper" "[I") ∈ TB := tb_6 18 rfl rfl
theorem w1219 : (Jvm.Cond.soleField "ResidualTreesModel" "upper") ∈ TB := tb_6 19 rfl rfl
theorem w1220 : (Jvm.Cond.laysFinal "ResidualTreesModel" "ResidualTreesModel" "lower" "[I") ∈ TB := tb_6 20 rfl rfl
theorem w1221 : (Jvm.Cond.soleField "ResidualTreesModel" "lower") ∈ TB := tb_6 21 rfl rfl
theorem w1222 : (Jvm.Cond.laysFinal "ResidualTreesModel" "ResidualTreesModel" "one" "[I") ∈ TB := tb_6 22 rfl rfl
theorem w1223 : (Jvm.Cond.soleField "ResidualTreesModel" "one") ∈ TB := tb_6 23 rfl rfl
theorem w1224 : (Jvm.Cond.laysFinal "ResidualTreesModel" "ResidualTreesModel" "two" "[I") ∈ TB := tb_6 24 rfl rfl
theorem w1225 : (Jvm.Cond.soleField "ResidualTreesModel" "two") ∈ TB := tb_6 25 rfl rfl
theorem w1226 : (Jvm.Cond.laysFinal "ResidualTreesModel" "ResidualTreesModel" "three" "[I") ∈ TB := tb_6 26 rfl rfl
theorem w1227 : (Jvm.Cond.soleField "ResidualTreesModel" "three") ∈ TB := tb_6 27 rfl rfl
theorem w1228 : (Jvm.Cond.laysFinal "ResidualTreesModel" "ResidualTreesModel" "product" "[I") ∈ TB := tb_6 28 rfl rfl
theorem w1229 : (Jvm.Cond.soleField "ResidualTreesModel" "product") ∈ TB := tb_6 29 rfl rfl
theorem w1230 : (Jvm.Cond.laysFinal "ResidualTreesModel" "ResidualTreesModel" "sumLeft" "[I") ∈ TB := tb_6 30 rfl rfl
theorem w1231 : (Jvm.Cond.soleField "ResidualTreesModel" "sumLeft") ∈ TB := tb_6 31 rfl rfl
theorem w1232 : (Jvm.Cond.laysFinal "ResidualTreesModel" "ResidualTreesModel" "sumRight" "[I") ∈ TB := tb_6 32 rfl rfl
theorem w1233 : (Jvm.Cond.soleField "ResidualTreesModel" "sumRight") ∈ TB := tb_6 33 rfl rfl
theorem w1234 : (Jvm.Cond.laysFinal "ResidualTreesModel" "ResidualTreesModel" "gain" "[I") ∈ TB := tb_6 34 rfl rfl
theorem w1235 : (Jvm.Cond.soleField "ResidualTreesModel" "gain") ∈ TB := tb_6 35 rfl rfl
theorem w1236 : (Jvm.Cond.laysFinal "ResidualTreesModel" "ResidualTreesModel" "bestGain" "[I") ∈ TB := tb_6 36 rfl rfl
theorem w1237 : (Jvm.Cond.soleField "ResidualTreesModel" "bestGain") ∈ TB := tb_6 37 rfl rfl
theorem w1238 : (Jvm.Cond.laysFinal "ResidualTreesModel" "ResidualTreesModel" "total" "[I") ∈ TB := tb_6 38 rfl rfl
theorem w1239 : (Jvm.Cond.soleField "ResidualTreesModel" "total") ∈ TB := tb_6 39 rfl rfl
theorem w1240 : (Jvm.Cond.laysFinal "ResidualTreesModel" "ResidualTreesModel" "bestTotal" "[I") ∈ TB := tb_6 40 rfl rfl
theorem w1241 : (Jvm.Cond.soleField "ResidualTreesModel" "bestTotal") ∈ TB := tb_6 41 rfl rfl
theorem w1242 : (Jvm.Cond.laysFinal "ResidualTreesModel" "ResidualTreesModel" "scaled" "[I") ∈ TB := tb_6 42 rfl rfl
theorem w1243 : (Jvm.Cond.soleField "ResidualTreesModel" "scaled") ∈ TB := tb_6 43 rfl rfl
theorem w1244 : (Jvm.Cond.laysFinal "ResidualTreesModel" "ResidualTreesModel" "oneLow" "[I") ∈ TB := tb_6 44 rfl rfl
theorem w1245 : (Jvm.Cond.soleField "ResidualTreesModel" "oneLow") ∈ TB := tb_6 45 rfl rfl
theorem w1246 : (Jvm.Cond.laysFinal "ResidualTreesModel" "ResidualTreesModel" "twoLow" "[I") ∈ TB := tb_6 46 rfl rfl
theorem w1247 : (Jvm.Cond.soleField "ResidualTreesModel" "twoLow") ∈ TB := tb_6 47 rfl rfl
theorem w1248 : (Jvm.Cond.laysFinal "ResidualTreesModel" "ResidualTreesModel" "totalLow" "[I") ∈ TB := tb_6 48 rfl rfl
theorem w1249 : (Jvm.Cond.soleField "ResidualTreesModel" "totalLow") ∈ TB := tb_6 49 rfl rfl
theorem w1250 : (Jvm.Cond.laysFinal "ResidualTreesModel" "ResidualTreesModel" "bestLow" "[I") ∈ TB := tb_6 50 rfl rfl
theorem w1251 : (Jvm.Cond.soleField "ResidualTreesModel" "bestLow") ∈ TB := tb_6 51 rfl rfl
theorem w1252 : (Jvm.Cond.laysFinal "ResidualTreesModel" "ResidualTreesModel" "common" "[I") ∈ TB := tb_6 52 rfl rfl
theorem w1253 : (Jvm.Cond.soleField "ResidualTreesModel" "common") ∈ TB := tb_6 53 rfl rfl
theorem w1254 : (Jvm.Cond.laysFinal "ResidualTreesModel" "ResidualTreesModel" "restUp" "[I") ∈ TB := tb_6 54 rfl rfl
theorem w1255 : (Jvm.Cond.soleField "ResidualTreesModel" "restUp") ∈ TB := tb_6 55 rfl rfl
theorem w1256 : (Jvm.Cond.laysFinal "ResidualTreesModel" "ResidualTreesModel" "restLow" "[I") ∈ TB := tb_6 56 rfl rfl
theorem w1257 : (Jvm.Cond.soleField "ResidualTreesModel" "restLow") ∈ TB := tb_6 57 rfl rfl
theorem w1258 : (Jvm.Cond.lays "ResidualTreesModel" "ResidualTreesModel" "told" "I") ∈ TB := tb_6 58 rfl rfl
theorem w1259 : (Jvm.Cond.soleField "ResidualTreesModel" "told") ∈ TB := tb_6 59 rfl rfl
theorem w1260 : (Jvm.Cond.laysFinal "ResidualTreesModel" "ResidualTreesModel" "out" "[B") ∈ TB := tb_6 60 rfl rfl
theorem w1261 : (Jvm.Cond.soleField "ResidualTreesModel" "out") ∈ TB := tb_6 61 rfl rfl
theorem w1262 : (Jvm.Cond.laysFinal "ResidualTreesModel" "ResidualTreesModel" "digits" "[B") ∈ TB := tb_6 62 rfl rfl
theorem w1263 : (Jvm.Cond.soleField "ResidualTreesModel" "digits") ∈ TB := tb_6 63 rfl rfl
theorem w1264 : (Jvm.Cond.lays "ResidualTreesModel" "ResidualTreesModel" "bestUnder" "I") ∈ TB := tb_6 64 rfl rfl
theorem w1265 : (Jvm.Cond.soleField "ResidualTreesModel" "bestUnder") ∈ TB := tb_6 65 rfl rfl
theorem w1266 : (Jvm.Cond.lays "ResidualTreesModel" "ResidualTreesModel" "bestColumn" "I") ∈ TB := tb_6 66 rfl rfl
theorem w1267 : (Jvm.Cond.soleField "ResidualTreesModel" "bestColumn") ∈ TB := tb_6 67 rfl rfl
theorem w1268 : (Jvm.Cond.lays "ResidualTreesModel" "ResidualTreesModel" "bestEdge" "I") ∈ TB := tb_6 68 rfl rfl
theorem w1269 : (Jvm.Cond.soleField "ResidualTreesModel" "bestEdge") ∈ TB := tb_6 69 rfl rfl
theorem w1270 : (Jvm.Cond.lays "ResidualTreesModel" "ResidualTreesModel" "bestLeft" "Z") ∈ TB := tb_6 70 rfl rfl
theorem w1271 : (Jvm.Cond.soleField "ResidualTreesModel" "bestLeft") ∈ TB := tb_6 71 rfl rfl
theorem w1272 : (Jvm.Cond.lays "ResidualTreesModel" "ResidualTreesModel" "bestSide" "J") ∈ TB := tb_6 72 rfl rfl
theorem w1273 : (Jvm.Cond.soleField "ResidualTreesModel" "bestSide") ∈ TB := tb_6 73 rfl rfl
theorem w1274 : (Jvm.Cond.lays "ResidualTreesModel" "ResidualTreesModel" "waiting" "I") ∈ TB := tb_6 74 rfl rfl
theorem w1275 : (Jvm.Cond.soleField "ResidualTreesModel" "waiting") ∈ TB := tb_6 75 rfl rfl
theorem w1276 : (Jvm.Cond.laysFinal "ResidualTreesModel" "ResidualTreesModel" "waitRows" "[J") ∈ TB := tb_6 76 rfl rfl
theorem w1277 : (Jvm.Cond.soleField "ResidualTreesModel" "waitRows") ∈ TB := tb_6 77 rfl rfl
theorem w1278 : (Jvm.Cond.laysFinal "ResidualTreesModel" "ResidualTreesModel" "waitDeep" "[I") ∈ TB := tb_6 78 rfl rfl
theorem w1279 : (Jvm.Cond.soleField "ResidualTreesModel" "waitDeep") ∈ TB := tb_6 79 rfl rfl
theorem w1280 : (Jvm.Cond.laysFinal "ResidualTreesModel" "ResidualTreesModel" "waitAbove" "[I") ∈ TB := tb_6 80 rfl rfl
theorem w1281 : (Jvm.Cond.soleField "ResidualTreesModel" "waitAbove") ∈ TB := tb_6 81 rfl rfl
theorem w1282 : (Jvm.Cond.laysFinal "ResidualTreesModel" "ResidualTreesModel" "waitLeft" "[Z") ∈ TB := tb_6 82 rfl rfl
theorem w1283 : (Jvm.Cond.soleField "ResidualTreesModel" "waitLeft") ∈ TB := tb_6 83 rfl rfl
theorem w1284 : (Jvm.Cond.superclass "ResidualTreesModel" "java/lang/Object") ∈ TB := tb_6 84 rfl rfl
theorem w1285 : (Jvm.Cond.arrayClass Jvm.ClassFile.FieldType.boolean) ∈ TB := tb_6 85 rfl rfl
theorem w1286 : (Jvm.Cond.arrayClass Jvm.ClassFile.FieldType.long) ∈ TB := tb_6 86 rfl rfl
theorem w1287 : (Jvm.Cond.methodLink "ResidualTreesLaw" (95 : Nat) ({ cls := "ResidualTreesModel", name := "thrown", desc := "()I" } : Jvm.MethodName)) ∈ TB := tb_6 87 rfl rfl
theorem w1288 : (Jvm.Cond.instanceMethod ({ cls := "ResidualTreesModel", name := "thrown", desc := "()I" } : Jvm.MethodName)) ∈ TB := tb_6 88 rfl rfl
theorem w1289 : (Jvm.Cond.selects "ResidualTreesModel" ({ cls := "ResidualTreesModel", name := "thrown", desc := "()I" } : Jvm.MethodName) ({ cls := "ResidualTreesModel", name := "thrown", desc := "()I" } : Jvm.MethodName)) ∈ TB := tb_6 89 rfl rfl
theorem w1290 : (Jvm.Cond.code ({ cls := "ResidualTreesModel", name := "thrown", desc := "()I" } : Jvm.MethodName) prog_13_method_2_code (1 : Nat) (Option.some Jvm.ClassFile.FieldType.int)) ∈ TB := tb_6 90 rfl rfl
theorem w1291 : (Jvm.Cond.methodLink "ResidualTreesLaw" (94 : Nat) ({ cls := "ResidualTreesModel", name := "begin", desc := "(I)V" } : Jvm.MethodName)) ∈ TB := tb_6 91 rfl rfl
theorem w1292 : (Jvm.Cond.instanceMethod ({ cls := "ResidualTreesModel", name := "begin", desc := "(I)V" } : Jvm.MethodName)) ∈ TB := tb_6 92 rfl rfl
theorem w1293 : (Jvm.Cond.selects "ResidualTreesModel" ({ cls := "ResidualTreesModel", name := "begin", desc := "(I)V" } : Jvm.MethodName) ({ cls := "ResidualTreesModel", name := "begin", desc := "(I)V" } : Jvm.MethodName)) ∈ TB := tb_6 93 rfl rfl
theorem w1294 : (Jvm.Cond.code ({ cls := "ResidualTreesModel", name := "begin", desc := "(I)V" } : Jvm.MethodName) prog_13_method_27_code (2 : Nat) (Option.none : Option Jvm.ClassFile.FieldType)) ∈ TB := tb_6 94 rfl rfl
theorem w1295 : (Jvm.Cond.methodLink "ResidualTreesModel" (227 : Nat) ({ cls := "ResidualTreesModel", name := "in", desc := "(III)Z" } : Jvm.MethodName)) ∈ TB := tb_6 95 rfl rfl
theorem w1296 : (Jvm.Cond.static ({ cls := "ResidualTreesModel", name := "in", desc := "(III)Z" } : Jvm.MethodName)) ∈ TB := tb_6 96 rfl rfl
theorem w1297 : (Jvm.Cond.code ({ cls := "ResidualTreesModel", name := "in", desc := "(III)Z" } : Jvm.MethodName) prog_13_method_4_code (3 : Nat) (Option.some Jvm.ClassFile.FieldType.boolean)) ∈ TB := tb_6 97 rfl rfl
theorem w1298 : (Jvm.Cond.methodLink "ResidualTreesModel" (231 : Nat) ({ cls := "ResidualTreesModel", name := "refused", desc := "(I)Z" } : Jvm.MethodName)) ∈ TB := tb_6 98 rfl rfl
theorem w1300 : (Jvm.Cond.instanceMethod ({ cls := "ResidualTreesModel", name := "refused", desc := "(I)Z" } : Jvm.MethodName)) ∈ TB := tb_6 100 rfl rfl
theorem w1301 : (Jvm.Cond.code ({ cls := "ResidualTreesModel", name := "refused", desc := "(I)Z" } : Jvm.MethodName) prog_13_method_3_code (2 : Nat) (Option.some Jvm.ClassFile.FieldType.boolean)) ∈ TB := tb_6 101 rfl rfl
theorem w1302 : (Jvm.Cond.methodLink "ResidualTreesLaw" (102 : Nat) ({ cls := "ResidualTreesModel", name := "add", desc := "(I)I" } : Jvm.MethodName)) ∈ TB := tb_6 102 rfl rfl
theorem w1303 : (Jvm.Cond.instanceMethod ({ cls := "ResidualTreesModel", name := "add", desc := "(I)I" } : Jvm.MethodName)) ∈ TB := tb_6 103 rfl rfl
theorem w1304 : (Jvm.Cond.selects "ResidualTreesModel" ({ cls := "ResidualTreesModel", name := "add", desc := "(I)I" } : Jvm.MethodName) ({ cls := "ResidualTreesModel", name := "add", desc := "(I)I" } : Jvm.MethodName)) ∈ TB := tb_6 104 rfl rfl
theorem w1305 : (Jvm.Cond.code ({ cls := "ResidualTreesModel", name := "add", desc := "(I)I" } : Jvm.MethodName) prog_13_method_28_code (3 : Nat) (Option.some Jvm.ClassFile.FieldType.int)) ∈ TB := tb_6 105 rfl rfl
theorem w1306 : (Jvm.Cond.methodLink "ResidualTreesLaw" (106 : Nat) ({ cls := "ResidualTreesModel", name := "put", desc := "(III)I" } : Jvm.MethodName)) ∈ TB := tb_6 106 rfl rfl
theorem w1307 : (Jvm.Cond.instanceMethod ({ cls := "ResidualTreesModel", name := "put", desc := "(III)I" } : Jvm.MethodName)) ∈ TB := tb_6 107 rfl rfl
theorem w1308 : (Jvm.Cond.selects "ResidualTreesModel" ({ cls := "ResidualTreesModel", name := "put", desc := "(III)I" } : Jvm.MethodName) ({ cls := "ResidualTreesModel", name := "put", desc := "(III)I" } : Jvm.MethodName)) ∈ TB := tb_6 108 rfl rfl
theorem w1309 : (Jvm.Cond.code ({ cls := "ResidualTreesModel", name := "put", desc := "(III)I" } : Jvm.MethodName) prog_13_method_33_code (5 : Nat) (Option.some Jvm.ClassFile.FieldType.int)) ∈ TB := tb_6 109 rfl rfl
theorem w1310 : (Jvm.Cond.methodLink "ResidualTreesModel" (240 : Nat) ({ cls := "ResidualTreesModel", name := "noRow", desc := "(I)Z" } : Jvm.MethodName)) ∈ TB := tb_6 110 rfl rfl
theorem w1312 : (Jvm.Cond.instanceMethod ({ cls := "ResidualTreesModel", name := "noRow", desc := "(I)Z" } : Jvm.MethodName)) ∈ TB := tb_6 112 rfl rfl
theorem w1313 : (Jvm.Cond.code ({ cls := "ResidualTreesModel", name := "noRow", desc := "(I)Z" } : Jvm.MethodName) prog_13_method_29_code (2 : Nat) (Option.some Jvm.ClassFile.FieldType.boolean)) ∈ TB := tb_6 113 rfl rfl
theorem w1314 : (Jvm.Cond.methodLink "ResidualTreesModel" (243 : Nat) ({ cls := "ResidualTreesModel", name := "noColumn", desc := "(I)Z" } : Jvm.MethodName)) ∈ TB := tb_6 114 rfl rfl
theorem w1316 : (Jvm.Cond.instanceMethod ({ cls := "ResidualTreesModel", name := "noColumn", desc := "(I)Z" } : Jvm.MethodName)) ∈ TB := tb_6 116 rfl rfl
theorem w1317 : (Jvm.Cond.code ({ cls := "ResidualTreesModel", name := "noColumn", desc := "(I)Z" } : Jvm.MethodName) prog_13_method_30_code (2 : Nat) (Option.some Jvm.ClassFile.FieldType.boolean)) ∈ TB := tb_6 117 rfl rfl
theorem w1318 : (Jvm.Cond.methodLink "ResidualTreesModel" (246 : Nat) ({ cls := "ResidualTreesModel", name := "isValue", desc := "(II)Z" } : Jvm.MethodName)) ∈ TB := tb_6 118 rfl rfl
theorem w1320 : (Jvm.Cond.instanceMethod ({ cls := "ResidualTreesModel", name := "isValue", desc := "(II)Z" } : Jvm.MethodName)) ∈ TB := tb_6 120 rfl rfl
theorem w1321 : (Jvm.Cond.code ({ cls := "ResidualTreesModel", name := "isValue", desc := "(II)Z" } : Jvm.MethodName) prog_13_method_32_code (3 : Nat) (Option.some Jvm.ClassFile.FieldType.boolean)) ∈ TB := tb_6 121 rfl rfl
theorem w1322 : (Jvm.Cond.methodLink "ResidualTreesModel" (237 : Nat) ({ cls := "ResidualTreesModel", name := "isNumber", desc := "(I)Z" } : Jvm.MethodName)) ∈ TB := tb_6 122 rfl rfl
theorem w1323 : (Jvm.Cond.static ({ cls := "ResidualTreesModel", name := "isNumber", desc := "(I)Z" } : Jvm.MethodName)) ∈ TB := tb_6 123 rfl rfl
theorem w1324 : (Jvm.Cond.code ({ cls := "ResidualTreesModel", name := "isNumber", desc := "(I)Z" } : Jvm.MethodName) prog_13_method_31_code (1 : Nat) (Option.some Jvm.ClassFile.FieldType.boolean)) ∈ TB := tb_6 124 rfl rfl
theorem w1325 : (Jvm.Cond.constant "ResidualTreesModel" (235 : Nat) (-1000000 : Int32)) ∈ TB := tb_6 125 rfl rfl
theorem w1326 : (Jvm.Cond.constant "ResidualTreesModel" (236 : Nat) (1000000 : Int32)) ∈ TB := tb_6 126 rfl rfl
theorem w1327 : (Jvm.Cond.methodLink "ResidualTreesLaw" (110 : Nat) ({ cls := "ResidualTreesModel", name := "target", desc := "(II)I" } : Jvm.MethodName)) ∈ TB := tb_6 127 rfl rfl
theorem w1328 : (Jvm.Cond.instanceMethod ({ cls := "ResidualTreesModel", name := "target", desc := "(II)I" } : Jvm.MethodName)) ∈ TB := tb_6 128 rfl rfl
theorem w1329 : (Jvm.Cond.selects "ResidualTreesModel" ({ cls := "ResidualTreesModel", name := "target", desc := "(II)I" } : Jvm.MethodName) ({ cls := "ResidualTreesModel", name := "target", desc := "(II)I" } : Jvm.MethodName)) ∈ TB := tb_6 129 rfl rfl
theorem w1330 : (Jvm.Cond.code ({ cls := "ResidualTreesModel", name := "target", desc := "(II)I" } : Jvm.MethodName) prog_13_method_34_code (4 : Nat) (Option.some Jvm.ClassFile.FieldType.int)) ∈ TB := tb_6 130 rfl rfl
theorem w1331 : (Jvm.Cond.methodLink "ResidualTreesLaw" (114 : Nat) ({ cls := "ResidualTreesModel", name := "kinds", desc := "(IZ)Z" } : Jvm.MethodName)) ∈ TB := tb_6 131 rfl rfl
theorem w1332 : (Jvm.Cond.instanceMethod ({ cls := "ResidualTreesModel", name := "kinds", desc := "(IZ)Z" } : Jvm.MethodName)) ∈ TB := tb_6 132 rfl rfl
theorem w1333 : (Jvm.Cond.selects "ResidualTreesModel" ({ cls := "ResidualTreesModel", name := "kinds", desc := "(IZ)Z" } : Jvm.MethodName) ({ cls := "ResidualTreesModel", name := "kinds", desc := "(IZ)Z" } : Jvm.MethodName)) ∈ TB := tb_6 133 rfl rfl
theorem w1334 : (Jvm.Cond.code ({ cls := "ResidualTreesModel", name := "kinds", desc := "(IZ)Z" } : Jvm.MethodName) prog_13_method_35_code (6 : Nat) (Option.some Jvm.ClassFile.FieldType.boolean)) ∈ TB := tb_6 134 rfl rfl
theorem w1335 : (Jvm.Cond.methodLink "ResidualTreesLaw" (118 : Nat) ({ cls := "ResidualTreesModel", name := "cut", desc := "(IZI)I" } : Jvm.MethodName)) ∈ TB := tb_6 135 rfl rfl
theorem w1336 : (Jvm.Cond.instanceMethod ({ cls := "ResidualTreesModel", name := "cut", desc := "(IZI)I" } : Jvm.MethodName)) ∈ TB := tb_6 136 rfl rfl
theorem w1337 : (Jvm.Cond.selects "ResidualTreesModel" ({ cls := "ResidualTreesModel", name := "cut", desc := "(IZI)I" } : Jvm.MethodName) ({ cls := "ResidualTreesModel", name := "cut", desc := "(IZI)I" } : Jvm.MethodName)) ∈ TB := tb_6 137 rfl rfl
theorem w1338 : (Jvm.Cond.code ({ cls := "ResidualTreesModel", name := "cut", desc := "(IZI)I" } : Jvm.MethodName) prog_13_method_36_code (11 : Nat) (Option.some Jvm.ClassFile.FieldType.int)) ∈ TB := tb_6 138 rfl rfl
theorem w1339 : (Jvm.Cond.methodLink "ResidualTreesModel" (250 : Nat) ({ cls := "ResidualTreesModel", name := "inOrder", desc := "(II)I" } : Jvm.MethodName)) ∈ TB := tb_6 139 rfl rfl
theorem w1341 : (Jvm.Cond.instanceMethod ({ cls := "ResidualTreesModel", name := "inOrder", desc := "(II)I" } : Jvm.MethodName)) ∈ TB := tb_6 141 rfl rfl
theorem w1342 : (Jvm.Cond.code ({ cls := "ResidualTreesModel", name := "inOrder", desc := "(II)I" } : Jvm.MethodName) prog_13_method_37_code (9 : Nat) (Option.some Jvm.ClassFile.FieldType.int)) ∈ TB := tb_6 142 rfl rfl
theorem w1343 : (Jvm.Cond.methodLink "ResidualTreesLaw" (121 : Nat) ({ cls := "ResidualTreesModel", name := "edge", desc := "(II)I" } : Jvm.MethodName)) ∈ TB := tb_6 143 rfl rfl
theorem w1344 : (Jvm.Cond.instanceMethod ({ cls := "ResidualTreesModel", name := "edge", desc := "(II)I" } : Jvm.MethodName)) ∈ TB := tb_6 144 rfl rfl
theorem w1345 : (Jvm.Cond.selects "ResidualTreesModel" ({ cls := "ResidualTreesModel", name := "edge", desc := "(II)I" } : Jvm.MethodName) ({ cls := "ResidualTreesModel", name := "edge", desc := "(II)I" } : Jvm.MethodName)) ∈ TB := tb_6 145 rfl rfl
theorem w1346 : (Jvm.Cond.code ({ cls := "ResidualTreesModel", name := "edge", desc := "(II)I" } : Jvm.MethodName) prog_13_method_38_code (3 : Nat) (Option.some Jvm.ClassFile.FieldType.int)) ∈ TB := tb_6 146 rfl rfl
theorem w1347 : (Jvm.Cond.methodLink "ResidualTreesLaw" (124 : Nat) ({ cls := "ResidualTreesModel", name := "bin", desc := "(II)I" } : Jvm.MethodName)) ∈ TB := tb_6 147 rfl rfl
theorem w1348 : (Jvm.Cond.instanceMethod ({ cls := "ResidualTreesModel", name := "bin", desc := "(II)I" } : Jvm.MethodName)) ∈ TB := tb_6 148 rfl rfl
theorem w1349 : (Jvm.Cond.selects "ResidualTreesModel" ({ cls := "ResidualTreesModel", name := "bin", desc := "(II)I" } : Jvm.MethodName) ({ cls := "ResidualTreesModel", name := "bin", desc := "(II)I" } : Jvm.MethodName)) ∈ TB := tb_6 149 rfl rfl
theorem w1350 : (Jvm.Cond.code ({ cls := "ResidualTreesModel", name := "bin", desc := "(II)I" } : Jvm.MethodName) prog_13_method_39_code (5 : Nat) (Option.some Jvm.ClassFile.FieldType.int)) ∈ TB := tb_6 150 rfl rfl
theorem w1351 : (Jvm.Cond.methodLink "ResidualTreesLaw" (128 : Nat) ({ cls := "ResidualTreesModel", name := "shape", desc := "(III)V" } : Jvm.MethodName)) ∈ TB := tb_6 151 rfl rfl
theorem w1352 : (Jvm.Cond.instanceMethod ({ cls := "ResidualTreesModel", name := "shape", desc := "(III)V" } : Jvm.MethodName)) ∈ TB := tb_6 152 rfl rfl
theorem w1353 : (Jvm.Cond.selects "ResidualTreesModel" ({ cls := "ResidualTreesModel", name := "shape", desc := "(III)V" } : Jvm.MethodName) ({ cls := "ResidualTreesModel", name := "shape", desc := "(III)V" } : Jvm.MethodName)) ∈ TB := tb_6 153 rfl rfl
theorem w1354 : (Jvm.Cond.code ({ cls := "ResidualTreesModel", name := "shape", desc := "(III)V" } : Jvm.MethodName) prog_13_method_40_code (4 : Nat) (Option.none : Option Jvm.ClassFile.FieldType)) ∈ TB := tb_6 154 rfl rfl
theorem w1355 : (Jvm.Cond.methodLink "ResidualTreesLaw" (132 : Nat) ({ cls := "ResidualTreesModel", name := "rate", desc := "(II)V" } : Jvm.MethodName)) ∈ TB := tb_6 155 rfl rfl
theorem w1356 : (Jvm.Cond.instanceMethod ({ cls := "ResidualTreesModel", name := "rate", desc := "(II)V" } : Jvm.MethodName)) ∈ TB := tb_6 156 rfl rfl
theorem w1357 : (Jvm.Cond.selects "ResidualTreesModel" ({ cls := "ResidualTreesModel", name := "rate", desc := "(II)V" } : Jvm.MethodName) ({ cls := "ResidualTreesModel", name := "rate", desc := "(II)V" } : Jvm.MethodName)) ∈ TB := tb_6 157 rfl rfl
theorem w1358 : (Jvm.Cond.code ({ cls := "ResidualTreesModel", name := "rate", desc := "(II)V" } : Jvm.MethodName) prog_13_method_41_code (3 : Nat) (Option.none : Option Jvm.ClassFile.FieldType)) ∈ TB := tb_6 158 rfl rfl
theorem w1359 : (Jvm.Cond.methodLink "ResidualTreesLaw" (138 : Nat) ({ cls := "ResidualTreesModel", name := "sample", desc := "(JI)I" } : Jvm.MethodName)) ∈ TB := tb_6 159 rfl rfl
theorem w1360 : (Jvm.Cond.instanceMethod ({ cls := "ResidualTreesModel", name := "sample", desc := "(JI)I" } : Jvm.MethodName)) ∈ TB := tb_6 160 rfl rfl
theorem w1361 : (Jvm.Cond.selects "ResidualTreesModel" ({ cls := "ResidualTreesModel", name := "sample", desc := "(JI)I" } : Jvm.MethodName) ({ cls := "ResidualTreesModel", name := "sample", desc := "(JI)I" } : Jvm.MethodName)) ∈ TB := tb_6 161 rfl rfl
theorem w1362 : (Jvm.Cond.code ({ cls := "ResidualTreesModel", name := "sample", desc := "(JI)I" } : Jvm.MethodName) prog_13_method_44_code (4 : Nat) (Option.some Jvm.ClassFile.FieldType.int)) ∈ TB := tb_6 162 rfl rfl
theorem w1363 : (Jvm.Cond.methodLink "ResidualTreesModel" (254 : Nat) ({ cls := "ResidualTreesModel", name := "there", desc := "()J" } : Jvm.MethodName)) ∈ TB := tb_6 163 rfl rfl
theorem w1365 : (Jvm.Cond.instanceMethod ({ cls := "ResidualTreesModel", name := "there", desc := "()J" } : Jvm.MethodName)) ∈ TB := tb_6 165 rfl rfl
theorem w1366 : (Jvm.Cond.code ({ cls := "ResidualTreesModel", name := "there", desc := "()J" } : Jvm.MethodName) prog_13_method_43_code (1 : Nat) (Option.some Jvm.ClassFile.FieldType.long)) ∈ TB := tb_6 166 rfl rfl
theorem w1367 : (Jvm.Cond.methodLink "ResidualTreesModel" (258 : Nat) ({ cls := "ResidualTreesModel", name := "count", desc := "(J)I" } : Jvm.MethodName)) ∈ TB := tb_6 167 rfl rfl
theorem w1368 : (Jvm.Cond.static ({ cls := "ResidualTreesModel", name := "count", desc := "(J)I" } : Jvm.MethodName)) ∈ TB := tb_6 168 rfl rfl
theorem w1369 : (Jvm.Cond.code ({ cls := "ResidualTreesModel", name := "count", desc := "(J)I" } : Jvm.MethodName) prog_13_method_42_code (4 : Nat) (Option.some Jvm.ClassFile.FieldType.int)) ∈ TB := tb_6 169 rfl rfl
theorem w1370 : (Jvm.Cond.methodLink "ResidualTreesLaw" (141 : Nat) ({ cls := "ResidualTreesModel", name := "train", desc := "(I)I" } : Jvm.MethodName)) ∈ TB := tb_6 170 rfl rfl
theorem w1371 : (Jvm.Cond.instanceMethod ({ cls := "ResidualTreesModel", name := "train", desc := "(I)I" } : Jvm.MethodName)) ∈ TB := tb_6 171 rfl rfl
theorem w1372 : (Jvm.Cond.selects "ResidualTreesModel" ({ cls := "ResidualTreesModel", name := "train", desc := "(I)I" } : Jvm.MethodName) ({ cls := "ResidualTreesModel", name := "train", desc := "(I)I" } : Jvm.MethodName)) ∈ TB := tb_6 172 rfl rfl
theorem w1373 : (Jvm.Cond.code ({ cls := "ResidualTreesModel", name := "train", desc := "(I)I" } : Jvm.MethodName) prog_13_method_51_code (6 : Nat) (Option.some Jvm.ClassFile.FieldType.int)) ∈ TB := tb_6 173 rfl rfl
theorem w1374 : (Jvm.Cond.methodLink "ResidualTreesModel" (300 : Nat) ({ cls := "ResidualTreesModel", name := "findResiduals", desc := "()V" } : Jvm.MethodName)) ∈ TB := tb_6 174 rfl rfl
theorem w1376 : (Jvm.Cond.instanceMethod ({ cls := "ResidualTreesModel", name := "findResiduals", desc := "()V" } : Jvm.MethodName)) ∈ TB := tb_6 176 rfl rfl
theorem w1377 : (Jvm.Cond.code ({ cls := "ResidualTreesModel", name := "findResiduals", desc := "()V" } : Jvm.MethodName) prog_13_method_49_code (3 : Nat) (Option.none : Option Jvm.ClassFile.FieldType)) ∈ TB := tb_6 177 rfl rfl
theorem w1378 : (Jvm.Cond.methodLink "ResidualTreesModel" (276 : Nat) ({ cls := "ResidualTreesModel", name := "zero", desc := "([I)V" } : Jvm.MethodName)) ∈ TB := tb_6 178 rfl rfl
theorem w1379 : (Jvm.Cond.static ({ cls := "ResidualTreesModel", name := "zero", desc := "([I)V" } : Jvm.MethodName)) ∈ TB := tb_6 179 rfl rfl
theorem w1380 : (Jvm.Cond.code ({ cls := "ResidualTreesModel", name := "zero", desc := "([I)V" } : Jvm.MethodName) prog_13_method_17_code (2 : Nat) (Option.none : Option Jvm.ClassFile.FieldType)) ∈ TB := tb_6 180 rfl rfl
theorem w1381 : (Jvm.Cond.methodLink "ResidualTreesModel" (290 : Nat) ({ cls := "ResidualTreesModel", name := "walk", desc := "(IIII)V" } : Jvm.MethodName)) ∈ TB := tb_6 181 rfl rfl
theorem w1383 : (Jvm.Cond.instanceMethod ({ cls := "ResidualTreesModel", name := "walk", desc := "(IIII)V" } : Jvm.MethodName)) ∈ TB := tb_6 183 rfl rfl
theorem w1384 : (Jvm.Cond.code ({ cls := "ResidualTreesModel", name := "walk", desc := "(IIII)V" } : Jvm.MethodName) prog_13_method_48_code (6 : Nat) (Option.none : Option Jvm.ClassFile.FieldType)) ∈ TB := tb_6 184 rfl rfl
theorem w1385 : (Jvm.Cond.methodLink "ResidualTreesModel" (272 : Nat) ({ cls := "ResidualTreesModel", name := "setInt", desc := "([IJ)V" } : Jvm.MethodName)) ∈ TB := tb_6 185 rfl rfl
theorem w1386 : (Jvm.Cond.static ({ cls := "ResidualTreesModel", name := "setInt", desc := "([IJ)V" } : Jvm.MethodName)) ∈ TB := tb_6 186 rfl rfl
theorem w1387 : (Jvm.Cond.code ({ cls := "ResidualTreesModel", name := "setInt", desc := "([IJ)V" } : Jvm.MethodName) prog_13_method_5_code (6 : Nat) (Option.none : Option Jvm.ClassFile.FieldType)) ∈ TB := tb_6 187 rfl rfl
theorem w1388 : (Jvm.Cond.constantLong "ResidualTreesModel" (148 : Nat) (268435455 : Int64)) ∈ TB := tb_6 188 rfl rfl
theorem w1389 : (Jvm.Cond.methodLink "ResidualTreesModel" (280 : Nat) ({ cls := "ResidualTreesModel", name := "leafOf", desc := "(II)I" } : Jvm.MethodName)) ∈ TB := tb_6 189 rfl rfl
theorem w1391 : (Jvm.Cond.instanceMethod ({ cls := "ResidualTreesModel", name := "leafOf", desc := "(II)I" } : Jvm.MethodName)) ∈ TB := tb_6 191 rfl rfl
theorem w1392 : (Jvm.Cond.code ({ cls := "ResidualTreesModel", name := "leafOf", desc := "(II)I" } : Jvm.MethodName) prog_13_method_46_code (5 : Nat) (Option.some Jvm.ClassFile.FieldType.int)) ∈ TB := tb_6 192 rfl rfl
theorem w1393 : (Jvm.Cond.methodLink "ResidualTreesModel" (262 : Nat) ({ cls := "ResidualTreesModel", name := "goesLeft", desc := "(II)Z" } : Jvm.MethodName)) ∈ TB := tb_6 193 rfl rfl
theorem w1395 : (Jvm.Cond.instanceMethod ({ cls := "ResidualTreesModel", name := "goesLeft", desc := "(II)Z" } : Jvm.MethodName)) ∈ TB := tb_6 195 rfl rfl
theorem w1396 : (Jvm.Cond.code ({ cls := "ResidualTreesModel", name := "goesLeft", desc := "(II)Z" } : Jvm.MethodName) prog_13_method_45_code (3 : Nat) (Option.some Jvm.ClassFile.FieldType.boolean)) ∈ TB := tb_6 196 rfl rfl
theorem w1397 : (Jvm.Cond.methodLink "ResidualTreesModel" (283 : Nat) ({ cls := "ResidualTreesModel", name := "take", desc := "(I)V" } : Jvm.MethodName)) ∈ TB := tb_6 197 rfl rfl
theorem w1399 : (Jvm.Cond.instanceMethod ({ cls := "ResidualTreesModel", name := "take", desc := "(I)V" } : Jvm.MethodName)) ∈ TB := tb_6 199 rfl rfl
theorem w1400 : (Jvm.Cond.code ({ cls := "ResidualTreesModel", name := "take", desc := "(I)V" } : Jvm.MethodName) prog_13_method_47_code (2 : Nat) (Option.none : Option Jvm.ClassFile.FieldType)) ∈ TB := tb_6 200 rfl rfl
theorem w1401 : (Jvm.Cond.methodLink "ResidualTreesModel" (265 : Nat) ({ cls := "ResidualTreesModel", name := "load", desc := "([II[I)V" } : Jvm.MethodName)) ∈ TB := tb_6 201 rfl rfl
theorem w1402 : (Jvm.Cond.static ({ cls := "ResidualTreesModel", name := "load", desc := "([II[I)V" } : Jvm.MethodName)) ∈ TB := tb_6 202 rfl rfl
theorem w1403 : (Jvm.Cond.code ({ cls := "ResidualTreesModel", name := "load", desc := "([II[I)V" } : Jvm.MethodName) prog_13_method_23_code (4 : Nat) (Option.none : Option Jvm.ClassFile.FieldType)) ∈ TB := tb_6 203 rfl rfl
theorem w1404 : (Jvm.Cond.methodLink "ResidualTreesModel" (269 : Nat) ({ cls := "ResidualTreesModel", name := "loadLows", desc := "([II[I)V" } : Jvm.MethodName)) ∈ TB := tb_6 204 rfl rfl
theorem w1405 : (Jvm.Cond.static ({ cls := "ResidualTreesModel", name := "loadLows", desc := "([II[I)V" } : Jvm.MethodName)) ∈ TB := tb_6 205 rfl rfl
theorem w1406 : (Jvm.Cond.code ({ cls := "ResidualTreesModel", name := "loadLows", desc := "([II[I)V" } : Jvm.MethodName) prog_13_method_25_code (4 : Nat) (Option.none : Option Jvm.ClassFile.FieldType)) ∈ TB := tb_6 206 rfl rfl
theorem w1407 : (Jvm.Cond.methodLink "ResidualTreesModel" (286 : Nat) ({ cls := "ResidualTreesModel", name := "addFractions", desc := "([I[I[I[II)V" } : Jvm.MethodName)) ∈ TB := tb_6 207 rfl rfl
theorem w1409 : (Jvm.Cond.instanceMethod ({ cls := "ResidualTreesModel", name := "addFractions", desc := "([I[I[I[II)V" } : Jvm.MethodName)) ∈ TB := tb_6 209 rfl rfl
theorem w1410 : (Jvm.Cond.code ({ cls := "ResidualTreesModel", name := "addFractions", desc := "([I[I[I[II)V" } : Jvm.MethodName) prog_13_method_21_code (6 : Nat) (Option.none : Option Jvm.ClassFile.FieldType)) ∈ TB := tb_6 210 rfl rfl
theorem w1411 : (Jvm.Cond.methodLink "ResidualTreesModel" (180 : Nat) ({ cls := "ResidualTreesModel", name := "raise", desc := "([I[I[I)V" } : Jvm.MethodName)) ∈ TB := tb_6 211 rfl rfl
theorem w1413 : (Jvm.Cond.instanceMethod ({ cls := "ResidualTreesModel", name := "raise", desc := "([I[I[I)V" } : Jvm.MethodName)) ∈ TB := tb_6 213 rfl rfl
theorem w1414 : (Jvm.Cond.code ({ cls := "ResidualTreesModel", name := "raise", desc := "([I[I[I)V" } : Jvm.MethodName) prog_13_method_20_code (5 : Nat) (Option.none : Option Jvm.ClassFile.FieldType)) ∈ TB := tb_6 214 rfl rfl
theorem w1415 : (Jvm.Cond.methodLink "ResidualTreesModel" (177 : Nat) ({ cls := "ResidualTreesModel", name := "times", desc := "([II)V" } : Jvm.MethodName)) ∈ TB := tb_6 215 rfl rfl
theorem w1416 : (Jvm.Cond.static ({ cls := "ResidualTreesModel", name := "times", desc := "([II)V" } : Jvm.MethodName)) ∈ TB := tb_6 216 rfl rfl
theorem w1417 : (Jvm.Cond.code ({ cls := "ResidualTreesModel", name := "times", desc := "([II)V" } : Jvm.MethodName) prog_13_method_13_code (8 : Nat) (Option.none : Option Jvm.ClassFile.FieldType)) ∈ TB := tb_6 217 rfl rfl
theorem w1418 : (Jvm.Cond.methodLink "ResidualTreesModel" (166 : Nat) ({ cls := "ResidualTreesModel", name := "trim", desc := "([II)V" } : Jvm.MethodName)) ∈ TB := tb_6 218 rfl rfl
theorem w1419 : (Jvm.Cond.static ({ cls := "ResidualTreesModel", name := "trim", desc := "([II)V" } : Jvm.MethodName)) ∈ TB := tb_6 219 rfl rfl
theorem w1420 : (Jvm.Cond.code ({ cls := "ResidualTreesModel", name := "trim", desc := "([II)V" } : Jvm.MethodName) prog_13_method_9_code (3 : Nat) (Option.none : Option Jvm.ClassFile.FieldType)) ∈ TB := tb_6 220 rfl rfl
theorem w1421 : (Jvm.Cond.methodLink "ResidualTreesModel" (184 : Nat) ({ cls := "ResidualTreesModel", name := "add", desc := "([I[II)V" } : Jvm.MethodName)) ∈ TB := tb_6 221 rfl rfl
theorem w1422 : (Jvm.Cond.static ({ cls := "ResidualTreesModel", name := "add", desc := "([I[II)V" } : Jvm.MethodName)) ∈ TB := tb_6 222 rfl rfl
theorem w1423 : (Jvm.Cond.code ({ cls := "ResidualTreesModel", name := "add", desc := "([I[II)V" } : Jvm.MethodName) prog_13_method_10_code (4 : Nat) (Option.none : Option Jvm.ClassFile.FieldType)) ∈ TB := tb_6 223 rfl rfl
theorem w1424 : (Jvm.Cond.methodLink "ResidualTreesModel" (154 : Nat) ({ cls := "ResidualTreesModel", name := "copy", desc := "([I[I)V" } : Jvm.MethodName)) ∈ TB := tb_6 224 rfl rfl
theorem w1425 : (Jvm.Cond.static ({ cls := "ResidualTreesModel", name := "copy", desc := "([I[I)V" } : Jvm.MethodName)) ∈ TB := tb_6 225 rfl rfl
theorem w1426 : (Jvm.Cond.code ({ cls := "ResidualTreesModel", name := "copy", desc := "([I[I)V" } : Jvm.MethodName) prog_13_method_6_code (3 : Nat) (Option.none : Option Jvm.ClassFile.FieldType)) ∈ TB := tb_6 226 rfl rfl
theorem w1427 : (Jvm.Cond.methodLink "ResidualTreesModel" (158 : Nat) ({ cls := "ResidualTreesModel", name := "addSizes", desc := "([I[I)V" } : Jvm.MethodName)) ∈ TB := tb_6 227 rfl rfl
theorem w1428 : (Jvm.Cond.static ({ cls := "ResidualTreesModel", name := "addSizes", desc := "([I[I)V" } : Jvm.MethodName)) ∈ TB := tb_6 228 rfl rfl
theorem w1429 : (Jvm.Cond.code ({ cls := "ResidualTreesModel", name := "addSizes", desc := "([I[I)V" } : Jvm.MethodName) prog_13_method_11_code (6 : Nat) (Option.none : Option Jvm.ClassFile.FieldType)) ∈ TB := tb_6 229 rfl rfl
theorem w1430 : (Jvm.Cond.constant "ResidualTreesModel" (165 : Nat) (268435455 : Int32)) ∈ TB := tb_6 230 rfl rfl
theorem w1431 : (Jvm.Cond.methodLink "ResidualTreesModel" (161 : Nat) ({ cls := "ResidualTreesModel", name := "takeSizes", desc := "([I[II)V" } : Jvm.MethodName)) ∈ TB := tb_6 231 rfl rfl
theorem w1432 : (Jvm.Cond.static ({ cls := "ResidualTreesModel", name := "takeSizes", desc := "([I[II)V" } : Jvm.MethodName)) ∈ TB := tb_6 232 rfl rfl
theorem w1433 : (Jvm.Cond.code ({ cls := "ResidualTreesModel", name := "takeSizes", desc := "([I[II)V" } : Jvm.MethodName) prog_13_method_12_code (10 : Nat) (Option.none : Option Jvm.ClassFile.FieldType)) ∈ TB := tb_6 233 rfl rfl
theorem w1434 : (Jvm.Cond.methodLink "ResidualTreesModel" (150 : Nat) ({ cls := "ResidualTreesModel", name := "compareSizes", desc := "([I[I)I" } : Jvm.MethodName)) ∈ TB := tb_6 234 rfl rfl
theorem w1435 : (Jvm.Cond.static ({ cls := "ResidualTreesModel", name := "compareSizes", desc := "([I[I)I" } : Jvm.MethodName)) ∈ TB := tb_6 235 rfl rfl
theorem w1436 : (Jvm.Cond.code ({ cls := "ResidualTreesModel", name := "compareSizes", desc := "([I[I)I" } : Jvm.MethodName) prog_13_method_7_code (3 : Nat) (Option.some Jvm.ClassFile.FieldType.int)) ∈ TB := tb_6 236 rfl rfl
theorem w1437 : (Jvm.Cond.methodLink "ResidualTreesModel" (187 : Nat) ({ cls := "ResidualTreesModel", name := "reduce", desc := "([I[I)V" } : Jvm.MethodName)) ∈ TB := tb_6 237 rfl rfl
theorem w1439 : (Jvm.Cond.instanceMethod ({ cls := "ResidualTreesModel", name := "reduce", desc := "([I[I)V" } : Jvm.MethodName)) ∈ TB := tb_6 239 rfl rfl
theorem w1440 : (Jvm.Cond.code ({ cls := "ResidualTreesModel", name := "reduce", desc := "([I[I)V" } : Jvm.MethodName) prog_13_method_19_code (5 : Nat) (Option.none : Option Jvm.ClassFile.FieldType)) ∈ TB := tb_7 0 rfl rfl
theorem w1441 : (Jvm.Cond.methodLink "ResidualTreesModel" (170 : Nat) ({ cls := "ResidualTreesModel", name := "rest", desc := "([II)I" } : Jvm.MethodName)) ∈ TB := tb_7 1 rfl rfl
theorem w1442 : (Jvm.Cond.static ({ cls := "ResidualTreesModel", name := "rest", desc := "([II)I" } : Jvm.MethodName)) ∈ TB := tb_7 2 rfl rfl
theorem w1443 : (Jvm.Cond.code ({ cls := "ResidualTreesModel", name := "rest", desc := "([II)I" } : Jvm.MethodName) prog_13_method_14_code (5 : Nat) (Option.some Jvm.ClassFile.FieldType.int)) ∈ TB := tb_7 3 rfl rfl
theorem w1444 : (Jvm.Cond.methodLink "ResidualTreesModel" (174 : Nat) ({ cls := "ResidualTreesModel", name := "divide", desc := "([II)I" } : Jvm.MethodName)) ∈ TB := tb_7 4 rfl rfl
theorem w1445 : (Jvm.Cond.static ({ cls := "ResidualTreesModel", name := "divide", desc := "([II)I" } : Jvm.MethodName)) ∈ TB := tb_7 5 rfl rfl
theorem w1446 : (Jvm.Cond.code ({ cls := "ResidualTreesModel", name := "divide", desc := "([II)I" } : Jvm.MethodName) prog_13_method_15_code (7 : Nat) (Option.some Jvm.ClassFile.FieldType.int)) ∈ TB := tb_7 6 rfl rfl
theorem w1447 : (Jvm.Cond.methodLink "ResidualTreesModel" (294 : Nat) ({ cls := "ResidualTreesModel", name := "store", desc := "([I[II)V" } : Jvm.MethodName)) ∈ TB := tb_7 7 rfl rfl
theorem w1448 : (Jvm.Cond.static ({ cls := "ResidualTreesModel", name := "store", desc := "([I[II)V" } : Jvm.MethodName)) ∈ TB := tb_7 8 rfl rfl
theorem w1449 : (Jvm.Cond.code ({ cls := "ResidualTreesModel", name := "store", desc := "([I[II)V" } : Jvm.MethodName) prog_13_method_22_code (4 : Nat) (Option.none : Option Jvm.ClassFile.FieldType)) ∈ TB := tb_7 9 rfl rfl
theorem w1450 : (Jvm.Cond.methodLink "ResidualTreesModel" (297 : Nat) ({ cls := "ResidualTreesModel", name := "storeLows", desc := "([I[II)V" } : Jvm.MethodName)) ∈ TB := tb_7 10 rfl rfl
theorem w1451 : (Jvm.Cond.static ({ cls := "ResidualTreesModel", name := "storeLows", desc := "([I[II)V" } : Jvm.MethodName)) ∈ TB := tb_7 11 rfl rfl
theorem w1452 : (Jvm.Cond.code ({ cls := "ResidualTreesModel", name := "storeLows", desc := "([I[II)V" } : Jvm.MethodName) prog_13_method_24_code (4 : Nat) (Option.none : Option Jvm.ClassFile.FieldType)) ∈ TB := tb_7 12 rfl rfl
theorem w1453 : (Jvm.Cond.methodLink "ResidualTreesModel" (303 : Nat) ({ cls := "ResidualTreesModel", name := "grow", desc := "(J)V" } : Jvm.MethodName)) ∈ TB := tb_7 13 rfl rfl
theorem w1455 : (Jvm.Cond.instanceMethod ({ cls := "ResidualTreesModel", name := "grow", desc := "(J)V" } : Jvm.MethodName)) ∈ TB := tb_7 15 rfl rfl
theorem w1456 : (Jvm.Cond.code ({ cls := "ResidualTreesModel", name := "grow", desc := "(J)V" } : Jvm.MethodName) prog_13_method_53_code (8 : Nat) (Option.none : Option Jvm.ClassFile.FieldType)) ∈ TB := tb_7 16 rfl rfl
theorem w1457 : (Jvm.Cond.methodLink "ResidualTreesModel" (314 : Nat) ({ cls := "ResidualTreesModel", name := "hold", desc := "(JIIZ)V" } : Jvm.MethodName)) ∈ TB := tb_7 17 rfl rfl
theorem w1459 : (Jvm.Cond.instanceMethod ({ cls := "ResidualTreesModel", name := "hold", desc := "(JIIZ)V" } : Jvm.MethodName)) ∈ TB := tb_7 19 rfl rfl
theorem w1460 : (Jvm.Cond.code ({ cls := "ResidualTreesModel", name := "hold", desc := "(JIIZ)V" } : Jvm.MethodName) prog_13_method_52_code (6 : Nat) (Option.none : Option Jvm.ClassFile.FieldType)) ∈ TB := tb_7 20 rfl rfl
theorem w1461 : (Jvm.Cond.methodLink "ResidualTreesModel" (318 : Nat) ({ cls := "ResidualTreesModel", name := "beginNode", desc := "(IJI)V" } : Jvm.MethodName)) ∈ TB := tb_7 21 rfl rfl
theorem w1463 : (Jvm.Cond.instanceMethod ({ cls := "ResidualTreesModel", name := "beginNode", desc := "(IJI)V" } : Jvm.MethodName)) ∈ TB := tb_7 23 rfl rfl
theorem w1464 : (Jvm.Cond.code ({ cls := "ResidualTreesModel", name := "beginNode", desc := "(IJI)V" } : Jvm.MethodName) prog_13_method_54_code (5 : Nat) (Option.none : Option Jvm.ClassFile.FieldType)) ∈ TB := tb_7 24 rfl rfl
theorem w1465 : (Jvm.Cond.methodLink "ResidualTreesModel" (332 : Nat) ({ cls := "ResidualTreesModel", name := "look", desc := "(J)V" } : Jvm.MethodName)) ∈ TB := tb_7 25 rfl rfl
theorem w1467 : (Jvm.Cond.instanceMethod ({ cls := "ResidualTreesModel", name := "look", desc := "(J)V" } : Jvm.MethodName)) ∈ TB := tb_7 27 rfl rfl
theorem w1468 : (Jvm.Cond.code ({ cls := "ResidualTreesModel", name := "look", desc := "(J)V" } : Jvm.MethodName) prog_13_method_59_code (10 : Nat) (Option.none : Option Jvm.ClassFile.FieldType)) ∈ TB := tb_7 28 rfl rfl
theorem w1469 : (Jvm.Cond.methodLink "ResidualTreesModel" (359 : Nat) ({ cls := "ResidualTreesModel", name := "lookAtKinds", desc := "(JJI)V" } : Jvm.MethodName)) ∈ TB := tb_7 29 rfl rfl
theorem w1471 : (Jvm.Cond.instanceMethod ({ cls := "ResidualTreesModel", name := "lookAtKinds", desc := "(JJI)V" } : Jvm.MethodName)) ∈ TB := tb_7 31 rfl rfl
theorem w1472 : (Jvm.Cond.code ({ cls := "ResidualTreesModel", name := "lookAtKinds", desc := "(JJI)V" } : Jvm.MethodName) prog_13_method_62_code (10 : Nat) (Option.none : Option Jvm.ClassFile.FieldType)) ∈ TB := tb_7 32 rfl rfl
theorem w1473 : (Jvm.Cond.methodLink "ResidualTreesModel" (370 : Nat) ({ cls := "ResidualTreesModel", name := "nextKind", desc := "(JII)I" } : Jvm.MethodName)) ∈ TB := tb_7 33 rfl rfl
theorem w1475 : (Jvm.Cond.instanceMethod ({ cls := "ResidualTreesModel", name := "nextKind", desc := "(JII)I" } : Jvm.MethodName)) ∈ TB := tb_7 35 rfl rfl
theorem w1476 : (Jvm.Cond.code ({ cls := "ResidualTreesModel", name := "nextKind", desc := "(JII)I" } : Jvm.MethodName) prog_13_method_63_code (9 : Nat) (Option.some Jvm.ClassFile.FieldType.int)) ∈ TB := tb_7 36 rfl rfl
theorem w1477 : (Jvm.Cond.methodLink "ResidualTreesModel" (374 : Nat) ({ cls := "ResidualTreesModel", name := "rowsOf", desc := "(JII)J" } : Jvm.MethodName)) ∈ TB := tb_7 37 rfl rfl
theorem w1479 : (Jvm.Cond.instanceMethod ({ cls := "ResidualTreesModel", name := "rowsOf", desc := "(JII)J" } : Jvm.MethodName)) ∈ TB := tb_7 39 rfl rfl
theorem w1480 : (Jvm.Cond.code ({ cls := "ResidualTreesModel", name := "rowsOf", desc := "(JII)J" } : Jvm.MethodName) prog_13_method_60_code (8 : Nat) (Option.some Jvm.ClassFile.FieldType.long)) ∈ TB := tb_7 40 rfl rfl
theorem w1481 : (Jvm.Cond.methodLink "ResidualTreesModel" (378 : Nat) ({ cls := "ResidualTreesModel", name := "isBefore", desc := "(JIJI)Z" } : Jvm.MethodName)) ∈ TB := tb_7 41 rfl rfl
theorem w1483 : (Jvm.Cond.instanceMethod ({ cls := "ResidualTreesModel", name := "isBefore", desc := "(JIJI)Z" } : Jvm.MethodName)) ∈ TB := tb_7 43 rfl rfl
theorem w1484 : (Jvm.Cond.code ({ cls := "ResidualTreesModel", name := "isBefore", desc := "(JIJI)Z" } : Jvm.MethodName) prog_13_method_61_code (8 : Nat) (Option.some Jvm.ClassFile.FieldType.boolean)) ∈ TB := tb_7 44 rfl rfl
theorem w1485 : (Jvm.Cond.methodLink "ResidualTreesModel" (335 : Nat) ({ cls := "ResidualTreesModel", name := "sum", desc := "(J[I)V" } : Jvm.MethodName)) ∈ TB := tb_7 45 rfl rfl
theorem w1487 : (Jvm.Cond.instanceMethod ({ cls := "ResidualTreesModel", name := "sum", desc := "(J[I)V" } : Jvm.MethodName)) ∈ TB := tb_7 47 rfl rfl
theorem w1488 : (Jvm.Cond.code ({ cls := "ResidualTreesModel", name := "sum", desc := "(J[I)V" } : Jvm.MethodName) prog_13_method_58_code (5 : Nat) (Option.none : Option Jvm.ClassFile.FieldType)) ∈ TB := tb_7 48 rfl rfl
theorem w1489 : (Jvm.Cond.methodLink "ResidualTreesModel" (367 : Nat) ({ cls := "ResidualTreesModel", name := "compare", desc := "([I[I)I" } : Jvm.MethodName)) ∈ TB := tb_7 49 rfl rfl
theorem w1490 : (Jvm.Cond.static ({ cls := "ResidualTreesModel", name := "compare", desc := "([I[I)I" } : Jvm.MethodName)) ∈ TB := tb_7 50 rfl rfl
theorem w1491 : (Jvm.Cond.code ({ cls := "ResidualTreesModel", name := "compare", desc := "([I[I)I" } : Jvm.MethodName) prog_13_method_8_code (2 : Nat) (Option.some Jvm.ClassFile.FieldType.int)) ∈ TB := tb_7 51 rfl rfl
theorem w1492 : (Jvm.Cond.methodLink "ResidualTreesModel" (363 : Nat) ({ cls := "ResidualTreesModel", name := "lookAtSide", desc := "(JJJII)V" } : Jvm.MethodName)) ∈ TB := tb_7 52 rfl rfl
theorem w1494 : (Jvm.Cond.instanceMethod ({ cls := "ResidualTreesModel", name := "lookAtSide", desc := "(JJJII)V" } : Jvm.MethodName)) ∈ TB := tb_7 54 rfl rfl
theorem w1495 : (Jvm.Cond.code ({ cls := "ResidualTreesModel", name := "lookAtSide", desc := "(JJJII)V" } : Jvm.MethodName) prog_13_method_64_code (9 : Nat) (Option.none : Option Jvm.ClassFile.FieldType)) ∈ TB := tb_7 55 rfl rfl
theorem w1496 : (Jvm.Cond.methodLink "ResidualTreesModel" (382 : Nat) ({ cls := "ResidualTreesModel", name := "weigh", desc := "(JJIIZ)V" } : Jvm.MethodName)) ∈ TB := tb_7 56 rfl rfl
theorem w1498 : (Jvm.Cond.instanceMethod ({ cls := "ResidualTreesModel", name := "weigh", desc := "(JJIIZ)V" } : Jvm.MethodName)) ∈ TB := tb_7 58 rfl rfl
theorem w1499 : (Jvm.Cond.code ({ cls := "ResidualTreesModel", name := "weigh", desc := "(JJIIZ)V" } : Jvm.MethodName) prog_13_method_65_code (13 : Nat) (Option.none : Option Jvm.ClassFile.FieldType)) ∈ TB := tb_7 59 rfl rfl
theorem w1500 : (Jvm.Cond.methodLink "ResidualTreesModel" (386 : Nat) ({ cls := "ResidualTreesModel", name := "multiply", desc := "([I[I)V" } : Jvm.MethodName)) ∈ TB := tb_7 60 rfl rfl
theorem w1502 : (Jvm.Cond.instanceMethod ({ cls := "ResidualTreesModel", name := "multiply", desc := "([I[I)V" } : Jvm.MethodName)) ∈ TB := tb_7 62 rfl rfl
theorem w1503 : (Jvm.Cond.code ({ cls := "ResidualTreesModel", name := "multiply", desc := "([I[I)V" } : Jvm.MethodName) prog_13_method_16_code (10 : Nat) (Option.none : Option Jvm.ClassFile.FieldType)) ∈ TB := tb_7 63 rfl rfl
theorem w1504 : (Jvm.Cond.methodLink "ResidualTreesModel" (322 : Nat) ({ cls := "ResidualTreesModel", name := "leaf", desc := "(IJ)V" } : Jvm.MethodName)) ∈ TB := tb_7 64 rfl rfl
theorem w1506 : (Jvm.Cond.instanceMethod ({ cls := "ResidualTreesModel", name := "leaf", desc := "(IJ)V" } : Jvm.MethodName)) ∈ TB := tb_7 66 rfl rfl
theorem w1507 : (Jvm.Cond.code ({ cls := "ResidualTreesModel", name := "leaf", desc := "(IJ)V" } : Jvm.MethodName) prog_13_method_55_code (4 : Nat) (Option.none : Option Jvm.ClassFile.FieldType)) ∈ TB := tb_7 67 rfl rfl
theorem w1508 : (Jvm.Cond.methodLink "ResidualTreesModel" (339 : Nat) ({ cls := "ResidualTreesModel", name := "under", desc := "([II)V" } : Jvm.MethodName)) ∈ TB := tb_7 68 rfl rfl
theorem w1510 : (Jvm.Cond.instanceMethod ({ cls := "ResidualTreesModel", name := "under", desc := "([II)V" } : Jvm.MethodName)) ∈ TB := tb_7 70 rfl rfl
theorem w1511 : (Jvm.Cond.code ({ cls := "ResidualTreesModel", name := "under", desc := "([II)V" } : Jvm.MethodName) prog_13_method_18_code (5 : Nat) (Option.none : Option Jvm.ClassFile.FieldType)) ∈ TB := tb_7 71 rfl rfl
theorem w1512 : (Jvm.Cond.methodLink "ResidualTreesModel" (342 : Nat) ({ cls := "ResidualTreesModel", name := "keep", desc := "(I[I)V" } : Jvm.MethodName)) ∈ TB := tb_7 72 rfl rfl
theorem w1514 : (Jvm.Cond.instanceMethod ({ cls := "ResidualTreesModel", name := "keep", desc := "(I[I)V" } : Jvm.MethodName)) ∈ TB := tb_7 74 rfl rfl
theorem w1515 : (Jvm.Cond.code ({ cls := "ResidualTreesModel", name := "keep", desc := "(I[I)V" } : Jvm.MethodName) prog_13_method_57_code (3 : Nat) (Option.none : Option Jvm.ClassFile.FieldType)) ∈ TB := tb_7 75 rfl rfl
theorem w1516 : (Jvm.Cond.methodLink "ResidualTreesModel" (326 : Nat) ({ cls := "ResidualTreesModel", name := "split", desc := "(I)V" } : Jvm.MethodName)) ∈ TB := tb_7 76 rfl rfl
theorem w1518 : (Jvm.Cond.instanceMethod ({ cls := "ResidualTreesModel", name := "split", desc := "(I)V" } : Jvm.MethodName)) ∈ TB := tb_7 78 rfl rfl
theorem w1519 : (Jvm.Cond.code ({ cls := "ResidualTreesModel", name := "split", desc := "(I)V" } : Jvm.MethodName) prog_13_method_56_code (3 : Nat) (Option.none : Option Jvm.ClassFile.FieldType)) ∈ TB := tb_7 79 rfl rfl
theorem w1520 : (Jvm.Cond.methodLink "ResidualTreesModel" (307 : Nat) ({ cls := "ResidualTreesModel", name := "commonBits", desc := "()I" } : Jvm.MethodName)) ∈ TB := tb_7 80 rfl rfl
theorem w1522 : (Jvm.Cond.instanceMethod ({ cls := "ResidualTreesModel", name := "commonBits", desc := "()I" } : Jvm.MethodName)) ∈ TB := tb_7 82 rfl rfl
theorem w1523 : (Jvm.Cond.code ({ cls := "ResidualTreesModel", name := "commonBits", desc := "()I" } : Jvm.MethodName) prog_13_method_50_code (3 : Nat) (Option.some Jvm.ClassFile.FieldType.int)) ∈ TB := tb_7 83 rfl rfl
theorem w1524 : (Jvm.Cond.methodLink "ResidualTreesLaw" (144 : Nat) ({ cls := "ResidualTreesModel", name := "drop", desc := "(I)I" } : Jvm.MethodName)) ∈ TB := tb_7 84 rfl rfl
theorem w1525 : (Jvm.Cond.instanceMethod ({ cls := "ResidualTreesModel", name := "drop", desc := "(I)I" } : Jvm.MethodName)) ∈ TB := tb_7 85 rfl rfl
theorem w1526 : (Jvm.Cond.selects "ResidualTreesModel" ({ cls := "ResidualTreesModel", name := "drop", desc := "(I)I" } : Jvm.MethodName) ({ cls := "ResidualTreesModel", name := "drop", desc := "(I)I" } : Jvm.MethodName)) ∈ TB := tb_7 86 rfl rfl
theorem w1527 : (Jvm.Cond.code ({ cls := "ResidualTreesModel", name := "drop", desc := "(I)I" } : Jvm.MethodName) prog_13_method_66_code (3 : Nat) (Option.some Jvm.ClassFile.FieldType.int)) ∈ TB := tb_7 87 rfl rfl
theorem w1528 : (Jvm.Cond.methodLink "ResidualTreesLaw" (147 : Nat) ({ cls := "ResidualTreesModel", name := "node", desc := "(III)I" } : Jvm.MethodName)) ∈ TB := tb_7 88 rfl rfl
theorem w1529 : (Jvm.Cond.instanceMethod ({ cls := "ResidualTreesModel", name := "node", desc := "(III)I" } : Jvm.MethodName)) ∈ TB := tb_7 89 rfl rfl
theorem w1530 : (Jvm.Cond.selects "ResidualTreesModel" ({ cls := "ResidualTreesModel", name := "node", desc := "(III)I" } : Jvm.MethodName) ({ cls := "ResidualTreesModel", name := "node", desc := "(III)I" } : Jvm.MethodName)) ∈ TB := tb_7 90 rfl rfl
theorem w1531 : (Jvm.Cond.code ({ cls := "ResidualTreesModel", name := "node", desc := "(III)I" } : Jvm.MethodName) prog_13_method_69_code (5 : Nat) (Option.some Jvm.ClassFile.FieldType.int)) ∈ TB := tb_7 91 rfl rfl
theorem w1532 : (Jvm.Cond.methodLink "ResidualTreesModel" (392 : Nat) ({ cls := "ResidualTreesModel", name := "noNode", desc := "(II)Z" } : Jvm.MethodName)) ∈ TB := tb_7 92 rfl rfl
theorem w1534 : (Jvm.Cond.instanceMethod ({ cls := "ResidualTreesModel", name := "noNode", desc := "(II)Z" } : Jvm.MethodName)) ∈ TB := tb_7 94 rfl rfl
theorem w1535 : (Jvm.Cond.code ({ cls := "ResidualTreesModel", name := "noNode", desc := "(II)Z" } : Jvm.MethodName) prog_13_method_68_code (3 : Nat) (Option.some Jvm.ClassFile.FieldType.boolean)) ∈ TB := tb_7 95 rfl rfl
theorem w1536 : (Jvm.Cond.methodLink "ResidualTreesModel" (389 : Nat) ({ cls := "ResidualTreesModel", name := "noTree", desc := "(I)Z" } : Jvm.MethodName)) ∈ TB := tb_7 96 rfl rfl
theorem w1538 : (Jvm.Cond.instanceMethod ({ cls := "ResidualTreesModel", name := "noTree", desc := "(I)Z" } : Jvm.MethodName)) ∈ TB := tb_7 98 rfl rfl
theorem w1539 : (Jvm.Cond.code ({ cls := "ResidualTreesModel", name := "noTree", desc := "(I)Z" } : Jvm.MethodName) prog_13_method_67_code (2 : Nat) (Option.some Jvm.ClassFile.FieldType.boolean)) ∈ TB := tb_7 99 rfl rfl
theorem w1540 : (Jvm.Cond.methodLink "ResidualTreesLaw" (150 : Nat) ({ cls := "ResidualTreesModel", name := "count", desc := "(I)I" } : Jvm.MethodName)) ∈ TB := tb_7 100 rfl rfl
theorem w1541 : (Jvm.Cond.instanceMethod ({ cls := "ResidualTreesModel", name := "count", desc := "(I)I" } : Jvm.MethodName)) ∈ TB := tb_7 101 rfl rfl
theorem w1542 : (Jvm.Cond.selects "ResidualTreesModel" ({ cls := "ResidualTreesModel", name := "count", desc := "(I)I" } : Jvm.MethodName) ({ cls := "ResidualTreesModel", name := "count", desc := "(I)I" } : Jvm.MethodName)) ∈ TB := tb_7 102 rfl rfl
theorem w1543 : (Jvm.Cond.code ({ cls := "ResidualTreesModel", name := "count", desc := "(I)I" } : Jvm.MethodName) prog_13_method_70_code (2 : Nat) (Option.some Jvm.ClassFile.FieldType.int)) ∈ TB := tb_7 103 rfl rfl
theorem w1544 : (Jvm.Cond.methodLink "ResidualTreesLaw" (153 : Nat) ({ cls := "ResidualTreesModel", name := "nodes", desc := "(I)I" } : Jvm.MethodName)) ∈ TB := tb_7 104 rfl rfl
theorem w1545 : (Jvm.Cond.instanceMethod ({ cls := "ResidualTreesModel", name := "nodes", desc := "(I)I" } : Jvm.MethodName)) ∈ TB := tb_7 105 rfl rfl
theorem w1546 : (Jvm.Cond.selects "ResidualTreesModel" ({ cls := "ResidualTreesModel", name := "nodes", desc := "(I)I" } : Jvm.MethodName) ({ cls := "ResidualTreesModel", name := "nodes", desc := "(I)I" } : Jvm.MethodName)) ∈ TB := tb_7 106 rfl rfl
theorem w1547 : (Jvm.Cond.code ({ cls := "ResidualTreesModel", name := "nodes", desc := "(I)I" } : Jvm.MethodName) prog_13_method_71_code (2 : Nat) (Option.some Jvm.ClassFile.FieldType.int)) ∈ TB := tb_7 107 rfl rfl
theorem w1548 : (Jvm.Cond.methodLink "ResidualTreesLaw" (156 : Nat) ({ cls := "ResidualTreesModel", name := "uses", desc := "(I)I" } : Jvm.MethodName)) ∈ TB := tb_7 108 rfl rfl
theorem w1549 : (Jvm.Cond.instanceMethod ({ cls := "ResidualTreesModel", name := "uses", desc := "(I)I" } : Jvm.MethodName)) ∈ TB := tb_7 109 rfl rfl
theorem w1550 : (Jvm.Cond.selects "ResidualTreesModel" ({ cls := "ResidualTreesModel", name := "uses", desc := "(I)I" } : Jvm.MethodName) ({ cls := "ResidualTreesModel", name := "uses", desc := "(I)I" } : Jvm.MethodName)) ∈ TB := tb_7 110 rfl rfl
theorem w1551 : (Jvm.Cond.code ({ cls := "ResidualTreesModel", name := "uses", desc := "(I)I" } : Jvm.MethodName) prog_13_method_72_code (5 : Nat) (Option.some Jvm.ClassFile.FieldType.int)) ∈ TB := tb_7 111 rfl rfl
theorem w1552 : (Jvm.Cond.methodLink "ResidualTreesLaw" (159 : Nat) ({ cls := "ResidualTreesModel", name := "tell", desc := "(II)I" } : Jvm.MethodName)) ∈ TB := tb_7 112 rfl rfl
theorem w1553 : (Jvm.Cond.instanceMethod ({ cls := "ResidualTreesModel", name := "tell", desc := "(II)I" } : Jvm.MethodName)) ∈ TB := tb_7 113 rfl rfl
theorem w1554 : (Jvm.Cond.selects "ResidualTreesModel" ({ cls := "ResidualTreesModel", name := "tell", desc := "(II)I" } : Jvm.MethodName) ({ cls := "ResidualTreesModel", name := "tell", desc := "(II)I" } : Jvm.MethodName)) ∈ TB := tb_7 114 rfl rfl
theorem w1555 : (Jvm.Cond.code ({ cls := "ResidualTreesModel", name := "tell", desc := "(II)I" } : Jvm.MethodName) prog_13_method_75_code (3 : Nat) (Option.some Jvm.ClassFile.FieldType.int)) ∈ TB := tb_7 115 rfl rfl
theorem w1556 : (Jvm.Cond.methodLink "ResidualTreesModel" (398 : Nat) ({ cls := "ResidualTreesModel", name := "write", desc := "([I[I)I" } : Jvm.MethodName)) ∈ TB := tb_7 116 rfl rfl
theorem w1558 : (Jvm.Cond.instanceMethod ({ cls := "ResidualTreesModel", name := "write", desc := "([I[I)I" } : Jvm.MethodName)) ∈ TB := tb_7 118 rfl rfl
theorem w1559 : (Jvm.Cond.code ({ cls := "ResidualTreesModel", name := "write", desc := "([I[I)I" } : Jvm.MethodName) prog_13_method_74_code (6 : Nat) (Option.some Jvm.ClassFile.FieldType.int)) ∈ TB := tb_7 119 rfl rfl
theorem w1560 : (Jvm.Cond.methodLink "ResidualTreesModel" (395 : Nat) ({ cls := "ResidualTreesModel", name := "writeDigits", desc := "([I)V" } : Jvm.MethodName)) ∈ TB := tb_7 120 rfl rfl
theorem w1562 : (Jvm.Cond.instanceMethod ({ cls := "ResidualTreesModel", name := "writeDigits", desc := "([I)V" } : Jvm.MethodName)) ∈ TB := tb_7 122 rfl rfl
theorem w1563 : (Jvm.Cond.code ({ cls := "ResidualTreesModel", name := "writeDigits", desc := "([I)V" } : Jvm.MethodName) prog_13_method_73_code (5 : Nat) (Option.none : Option Jvm.ClassFile.FieldType)) ∈ TB := tb_7 123 rfl rfl
theorem w1564 : (Jvm.Cond.methodLink "ResidualTreesLaw" (162 : Nat) ({ cls := "ResidualTreesModel", name := "residual", desc := "(II)I" } : Jvm.MethodName)) ∈ TB := tb_7 124 rfl rfl
theorem w1565 : (Jvm.Cond.instanceMethod ({ cls := "ResidualTreesModel", name := "residual", desc := "(II)I" } : Jvm.MethodName)) ∈ TB := tb_7 125 rfl rfl
theorem w1566 : (Jvm.Cond.selects "ResidualTreesModel" ({ cls := "ResidualTreesModel", name := "residual", desc := "(II)I" } : Jvm.MethodName) ({ cls := "ResidualTreesModel", name := "residual", desc := "(II)I" } : Jvm.MethodName)) ∈ TB := tb_7 126 rfl rfl
theorem w1567 : (Jvm.Cond.code ({ cls := "ResidualTreesModel", name := "residual", desc := "(II)I" } : Jvm.MethodName) prog_13_method_76_code (3 : Nat) (Option.some Jvm.ClassFile.FieldType.int)) ∈ TB := tb_7 127 rfl rfl
theorem w1568 : (Jvm.Cond.methodLink "ResidualTreesLaw" (165 : Nat) ({ cls := "ResidualTreesModel", name := "ask", desc := "(II)I" } : Jvm.MethodName)) ∈ TB := tb_7 128 rfl rfl
theorem w1569 : (Jvm.Cond.instanceMethod ({ cls := "ResidualTreesModel", name := "ask", desc := "(II)I" } : Jvm.MethodName)) ∈ TB := tb_7 129 rfl rfl
theorem w1570 : (Jvm.Cond.selects "ResidualTreesModel" ({ cls := "ResidualTreesModel", name := "ask", desc := "(II)I" } : Jvm.MethodName) ({ cls := "ResidualTreesModel", name := "ask", desc := "(II)I" } : Jvm.MethodName)) ∈ TB := tb_7 130 rfl rfl
theorem w1571 : (Jvm.Cond.code ({ cls := "ResidualTreesModel", name := "ask", desc := "(II)I" } : Jvm.MethodName) prog_13_method_77_code (4 : Nat) (Option.some Jvm.ClassFile.FieldType.int)) ∈ TB := tb_7 131 rfl rfl
theorem w1572 : (Jvm.Cond.methodLink "ResidualTreesLaw" (168 : Nat) ({ cls := "ResidualTreesModel", name := "predict", desc := "(I)I" } : Jvm.MethodName)) ∈ TB := tb_7 132 rfl rfl
theorem w1573 : (Jvm.Cond.instanceMethod ({ cls := "ResidualTreesModel", name := "predict", desc := "(I)I" } : Jvm.MethodName)) ∈ TB := tb_7 133 rfl rfl
theorem w1574 : (Jvm.Cond.selects "ResidualTreesModel" ({ cls := "ResidualTreesModel", name := "predict", desc := "(I)I" } : Jvm.MethodName) ({ cls := "ResidualTreesModel", name := "predict", desc := "(I)I" } : Jvm.MethodName)) ∈ TB := tb_7 134 rfl rfl
theorem w1575 : (Jvm.Cond.code ({ cls := "ResidualTreesModel", name := "predict", desc := "(I)I" } : Jvm.MethodName) prog_13_method_78_code (2 : Nat) (Option.some Jvm.ClassFile.FieldType.int)) ∈ TB := tb_7 135 rfl rfl
theorem w1576 : (Jvm.Cond.methodLink "ResidualTreesLaw" (172 : Nat) ({ cls := "ResidualTreesModel", name := "error", desc := "(JI)I" } : Jvm.MethodName)) ∈ TB := tb_7 136 rfl rfl
theorem w1577 : (Jvm.Cond.instanceMethod ({ cls := "ResidualTreesModel", name := "error", desc := "(JI)I" } : Jvm.MethodName)) ∈ TB := tb_7 137 rfl rfl
theorem w1578 : (Jvm.Cond.selects "ResidualTreesModel" ({ cls := "ResidualTreesModel", name := "error", desc := "(JI)I" } : Jvm.MethodName) ({ cls := "ResidualTreesModel", name := "error", desc := "(JI)I" } : Jvm.MethodName)) ∈ TB := tb_7 138 rfl rfl
theorem w1579 : (Jvm.Cond.code ({ cls := "ResidualTreesModel", name := "error", desc := "(JI)I" } : Jvm.MethodName) prog_13_method_80_code (4 : Nat) (Option.some Jvm.ClassFile.FieldType.int)) ∈ TB := tb_7 139 rfl rfl
theorem w1580 : (Jvm.Cond.methodLink "ResidualTreesModel" (401 : Nat) ({ cls := "ResidualTreesModel", name := "sumSquares", desc := "(JI)V" } : Jvm.MethodName)) ∈ TB := tb_7 140 rfl rfl
theorem w1582 : (Jvm.Cond.instanceMethod ({ cls := "ResidualTreesModel", name := "sumSquares", desc := "(JI)V" } : Jvm.MethodName)) ∈ TB := tb_7 142 rfl rfl
theorem w1583 : (Jvm.Cond.code ({ cls := "ResidualTreesModel", name := "sumSquares", desc := "(JI)V" } : Jvm.MethodName) prog_13_method_79_code (6 : Nat) (Option.none : Option Jvm.ClassFile.FieldType)) ∈ TB := tb_7 143 rfl rfl
theorem w1584 : (Jvm.Cond.methodLink "ResidualTreesLaw" (177 : Nat) ({ cls := "ResidualTreesModel", name := "best", desc := "(J)I" } : Jvm.MethodName)) ∈ TB := tb_7 144 rfl rfl
theorem w1585 : (Jvm.Cond.instanceMethod ({ cls := "ResidualTreesModel", name := "best", desc := "(J)I" } : Jvm.MethodName)) ∈ TB := tb_7 145 rfl rfl
theorem w1586 : (Jvm.Cond.selects "ResidualTreesModel" ({ cls := "ResidualTreesModel", name := "best", desc := "(J)I" } : Jvm.MethodName) ({ cls := "ResidualTreesModel", name := "best", desc := "(J)I" } : Jvm.MethodName)) ∈ TB := tb_7 146 rfl rfl
theorem w1587 : (Jvm.Cond.code ({ cls := "ResidualTreesModel", name := "best", desc := "(J)I" } : Jvm.MethodName) prog_13_method_81_code (5 : Nat) (Option.some Jvm.ClassFile.FieldType.int)) ∈ TB := tb_7 147 rfl rfl
theorem w1588 : (Jvm.Cond.methodLink "ResidualTreesLaw" (181 : Nat) ({ cls := "ResidualTreesModel", name := "byteAt", desc := "(I)I" } : Jvm.MethodName)) ∈ TB := tb_7 148 rfl rfl
theorem w1589 : (Jvm.Cond.instanceMethod ({ cls := "ResidualTreesModel", name := "byteAt", desc := "(I)I" } : Jvm.MethodName)) ∈ TB := tb_7 149 rfl rfl
theorem w1590 : (Jvm.Cond.selects "ResidualTreesModel" ({ cls := "ResidualTreesModel", name := "byteAt", desc := "(I)I" } : Jvm.MethodName) ({ cls := "ResidualTreesModel", name := "byteAt", desc := "(I)I" } : Jvm.MethodName)) ∈ TB := tb_7 150 rfl rfl
theorem w1591 : (Jvm.Cond.code ({ cls := "ResidualTreesModel", name := "byteAt", desc := "(I)I" } : Jvm.MethodName) prog_13_method_82_code (2 : Nat) (Option.some Jvm.ClassFile.FieldType.int)) ∈ TB := tb_7 151 rfl rfl
theorem w1592 : (Jvm.Cond.constantLong "ResidualTreesLaw" (133 : Nat) (4294967295 : Int64)) ∈ TB := tb_7 152 rfl rfl
theorem w1593 : (Jvm.Cond.sameMethod "java/lang/Throwable" "java/lang/Throwable" "fillInStackTrace" "(I)Ljava/lang/Throwable;") ∈ TB := tb_7 153 rfl rfl
theorem w1596 : (Jvm.Cond.sameMethod "[Ljava/lang/Object;" "java/lang/Object" "getClass" "()Ljava/lang/Class;") ∈ TB := tb_7 156 rfl rfl
theorem w1597 : (Jvm.Cond.selects "[Ljava/lang/Object;" ({ cls := "java/lang/Object", name := "getClass", desc := "()Ljava/lang/Class;" } : Jvm.MethodName) ({ cls := "java/lang/Object", name := "getClass", desc := "()Ljava/lang/Class;" } : Jvm.MethodName)) ∈ TB := tb_7 157 rfl rfl
