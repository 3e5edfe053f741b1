theorem b_1272 : Cond.methodLink RL 13 yX11_feed ∈ BIG := bi (tin_2 _ (List.mem_of_getElem? (i := 191) rfl)) rfl
theorem b_1273 : Cond.methodLink RL 17 yX12_feed ∈ BIG := bi (tin_6 _ (List.mem_of_getElem? (i := 201) rfl)) rfl
theorem b_1274 : Cond.methodLink RL 18 yX11_end ∈ BIG := bi (tin_2 _ (List.mem_of_getElem? (i := 199) rfl)) rfl
theorem b_1275 : Cond.methodLink RL 22 yX12_end ∈ BIG := bi (tin_6 _ (List.mem_of_getElem? (i := 205) rfl)) rfl
theorem b_1276 : Cond.methodLink RL 23 yX11_desk ∈ BIG := bi (tin_2 _ (List.mem_of_getElem? (i := 203) rfl)) rfl
theorem b_1277 : Cond.methodLink RL 27 yX12_desk ∈ BIG := bi (tin_6 _ (List.mem_of_getElem? (i := 213) rfl)) rfl
theorem b_1278 : Cond.methodLink RL 28 yX11_fault ∈ BIG := bi (tin_3 _ (List.mem_of_getElem? (i := 132) rfl)) rfl
theorem b_1279 : Cond.methodLink RL 31 yX12_fault ∈ BIG := bi (tin_6 _ (List.mem_of_getElem? (i := 209) rfl)) rfl
theorem b_1280 : Cond.methodLink RL 32 yX11_grade ∈ BIG := bi (tin_3 _ (List.mem_of_getElem? (i := 136) rfl)) rfl
theorem b_1281 : Cond.methodLink RL 35 yX12_grade ∈ BIG := bi (tin_7 _ (List.mem_of_getElem? (i := 75) rfl)) rfl
theorem b_1282 : Cond.methodLink RL 36 yX11_thinks ∈ BIG := bi (tin_3 _ (List.mem_of_getElem? (i := 144) rfl)) rfl
theorem b_1283 : Cond.methodLink RL 40 yX12_thinks ∈ BIG := bi (tin_7 _ (List.mem_of_getElem? (i := 83) rfl)) rfl
theorem b_1284 : Cond.methodLink RL 41 yX11_word ∈ BIG := bi (tin_3 _ (List.mem_of_getElem? (i := 156) rfl)) rfl
theorem b_1285 : Cond.methodLink RL 44 yX12_word ∈ BIG := bi (tin_7 _ (List.mem_of_getElem? (i := 99) rfl)) rfl
theorem b_1286 : Cond.methodLink RL 45 yX11_plan ∈ BIG := bi (tin_3 _ (List.mem_of_getElem? (i := 168) rfl)) rfl
theorem b_1287 : Cond.methodLink RL 48 yX12_plan ∈ BIG := bi (tin_7 _ (List.mem_of_getElem? (i := 118) rfl)) rfl
theorem b_1288 : Cond.methodLink RL 49 yX11_news ∈ BIG := bi (tin_3 _ (List.mem_of_getElem? (i := 180) rfl)) rfl
theorem b_1289 : Cond.methodLink RL 52 yX12_news ∈ BIG := bi (tin_7 _ (List.mem_of_getElem? (i := 134) rfl)) rfl
theorem b_1290 : Cond.methodLink RL 53 yX11_tells ∈ BIG := bi (tin_3 _ (List.mem_of_getElem? (i := 188) rfl)) rfl
theorem b_1291 : Cond.methodLink RL 56 yX12_tells ∈ BIG := bi (tin_7 _ (List.mem_of_getElem? (i := 138) rfl)) rfl
theorem b_1292 : Cond.methodLink RL 57 yX11_mean ∈ BIG := bi (tin_3 _ (List.mem_of_getElem? (i := 192) rfl)) rfl
theorem b_1293 : Cond.methodLink RL 60 yX12_mean ∈ BIG := bi (tin_7 _ (List.mem_of_getElem? (i := 142) rfl)) rfl
theorem b_1294 : Cond.methodLink RL 61 yX11_chance ∈ BIG := bi (tin_3 _ (List.mem_of_getElem? (i := 209) rfl)) rfl
theorem b_1295 : Cond.methodLink RL 65 yX12_chance ∈ BIG := bi (tin_7 _ (List.mem_of_getElem? (i := 165) rfl)) rfl
theorem b_1296 : Cond.methodLink RL 66 yX11_behind ∈ BIG := bi (tin_3 _ (List.mem_of_getElem? (i := 226) rfl)) rfl
theorem b_1297 : Cond.methodLink RL 69 yX12_behind ∈ BIG := bi (tin_7 _ (List.mem_of_getElem? (i := 179) rfl)) rfl
theorem b_1298 : Cond.methodLink RL 70 yX11_hurt ∈ BIG := bi (tin_3 _ (List.mem_of_getElem? (i := 239) rfl)) rfl
theorem b_1299 : Cond.methodLink RL 74 yX12_hurt ∈ BIG := bi (tin_7 _ (List.mem_of_getElem? (i := 192) rfl)) rfl
theorem b_1300 : Cond.methodLink RL 75 yX11_softest ∈ BIG := bi (tin_4 _ (List.mem_of_getElem? (i := 11) rfl)) rfl
theorem b_1301 : Cond.methodLink RL 78 yX12_softest ∈ BIG := bi (tin_7 _ (List.mem_of_getElem? (i := 204) rfl)) rfl
theorem b_1302 : Cond.methodLink RL 79 yX11_believes ∈ BIG := bi (tin_4 _ (List.mem_of_getElem? (i := 16) rfl)) rfl
theorem b_1303 : Cond.methodLink RL 82 yX12_believes ∈ BIG := bi (tin_7 _ (List.mem_of_getElem? (i := 208) rfl)) rfl
theorem b_1304 : Cond.methodLink RL 83 yX11_hurts ∈ BIG := bi (tin_4 _ (List.mem_of_getElem? (i := 50) rfl)) rfl
theorem b_1305 : Cond.methodLink RL 86 yX12_hurts ∈ BIG := bi (tin_7 _ (List.mem_of_getElem? (i := 228) rfl)) rfl
theorem b_1306 : Cond.methodLink RL 87 yX11_worst ∈ BIG := bi (tin_4 _ (List.mem_of_getElem? (i := 67) rfl)) rfl
theorem b_1307 : Cond.methodLink RL 90 yX12_worst ∈ BIG := bi (tin_8 _ (List.mem_of_getElem? (i := 2) rfl)) rfl
theorem b_1308 : Cond.methodLink RL 91 yX11_left ∈ BIG := bi (tin_4 _ (List.mem_of_getElem? (i := 78) rfl)) rfl
theorem b_1309 : Cond.methodLink RL 94 yX12_left ∈ BIG := bi (tin_8 _ (List.mem_of_getElem? (i := 6) rfl)) rfl
theorem b_1310 : Cond.methodLink RL 95 yX11_lies ∈ BIG := bi (tin_4 _ (List.mem_of_getElem? (i := 91) rfl)) rfl
theorem b_1311 : Cond.methodLink RL 98 yX12_lies ∈ BIG := bi (tin_8 _ (List.mem_of_getElem? (i := 10) rfl)) rfl
theorem b_1312 : Cond.methodLink RL 99 yX11_shames ∈ BIG := bi (tin_4 _ (List.mem_of_getElem? (i := 100) rfl)) rfl
theorem b_1313 : Cond.methodLink RL 102 yX12_shames ∈ BIG := bi (tin_8 _ (List.mem_of_getElem? (i := 14) rfl)) rfl
theorem b_1314 : Cond.methodLink RL 103 yX11_known ∈ BIG := bi (tin_4 _ (List.mem_of_getElem? (i := 113) rfl)) rfl
theorem b_1315 : Cond.methodLink RL 106 yX12_known ∈ BIG := bi (tin_8 _ (List.mem_of_getElem? (i := 22) rfl)) rfl
theorem b_1316 : Cond.methodLink RL 107 yX11_softer ∈ BIG := bi (tin_4 _ (List.mem_of_getElem? (i := 125) rfl)) rfl
theorem b_1317 : Cond.methodLink RL 110 yX12_softer ∈ BIG := bi (tin_8 _ (List.mem_of_getElem? (i := 136) rfl)) rfl
theorem b_1318 : Cond.methodLink RL 111 yX11_ordered ∈ BIG := bi (tin_4 _ (List.mem_of_getElem? (i := 162) rfl)) rfl
theorem b_1319 : Cond.methodLink RL 114 yX12_ordered ∈ BIG := bi (tin_8 _ (List.mem_of_getElem? (i := 160) rfl)) rfl
theorem b_1320 : Cond.methodLink RL 115 yX11_rest ∈ BIG := bi (tin_4 _ (List.mem_of_getElem? (i := 166) rfl)) rfl
theorem b_1321 : Cond.methodLink RL 118 yX12_rest ∈ BIG := bi (tin_8 _ (List.mem_of_getElem? (i := 132) rfl)) rfl
theorem b_1322 : Cond.methodLink RL 119 yX11_least ∈ BIG := bi (tin_4 _ (List.mem_of_getElem? (i := 217) rfl)) rfl
theorem b_1323 : Cond.methodLink RL 122 yX12_least ∈ BIG := bi (tin_8 _ (List.mem_of_getElem? (i := 30) rfl)) rfl
theorem b_1324 : Cond.methodLink RL 123 yX11_step ∈ BIG := bi (tin_4 _ (List.mem_of_getElem? (i := 221) rfl)) rfl
theorem b_1325 : Cond.methodLink RL 126 yX12_step ∈ BIG := bi (tin_8 _ (List.mem_of_getElem? (i := 56) rfl)) rfl
theorem b_1326 : Cond.methodLink RL 127 yX11_truly ∈ BIG := bi (tin_4 _ (List.mem_of_getElem? (i := 233) rfl)) rfl
theorem b_1327 : Cond.methodLink RL 130 yX12_truly ∈ BIG := bi (tin_8 _ (List.mem_of_getElem? (i := 72) rfl)) rfl
theorem b_1328 : Cond.methodLink RL 131 yX11_honest ∈ BIG := bi (tin_4 _ (List.mem_of_getElem? (i := 237) rfl)) rfl
theorem b_1329 : Cond.methodLink RL 134 yX12_honest ∈ BIG := bi (tin_8 _ (List.mem_of_getElem? (i := 76) rfl)) rfl
theorem b_1330 : Cond.methodLink RL 135 yX11_gentlest ∈ BIG := bi (tin_5 _ (List.mem_of_getElem? (i := 1) rfl)) rfl
theorem b_1331 : Cond.methodLink RL 138 yX12_gentlest ∈ BIG := bi (tin_8 _ (List.mem_of_getElem? (i := 80) rfl)) rfl
theorem b_1332 : Cond.methodLink RL 139 yX11_gently ∈ BIG := bi (tin_5 _ (List.mem_of_getElem? (i := 5) rfl)) rfl
theorem b_1333 : Cond.methodLink RL 142 yX12_gently ∈ BIG := bi (tin_8 _ (List.mem_of_getElem? (i := 84) rfl)) rfl
theorem b_1334 : Cond.methodLink RL 143 yX11_tender ∈ BIG := bi (tin_5 _ (List.mem_of_getElem? (i := 9) rfl)) rfl
theorem b_1335 : Cond.methodLink RL 146 yX12_tender ∈ BIG := bi (tin_8 _ (List.mem_of_getElem? (i := 88) rfl)) rfl
theorem b_1336 : Cond.methodLink RL 147 yX11_tenderly ∈ BIG := bi (tin_5 _ (List.mem_of_getElem? (i := 13) rfl)) rfl
theorem b_1337 : Cond.methodLink RL 150 yX12_tenderly ∈ BIG := bi (tin_8 _ (List.mem_of_getElem? (i := 92) rfl)) rfl
theorem b_1338 : Cond.methodLink RL 151 yX11_hope ∈ BIG := bi (tin_5 _ (List.mem_of_getElem? (i := 17) rfl)) rfl
theorem b_1339 : Cond.methodLink RL 154 yX12_hope ∈ BIG := bi (tin_8 _ (List.mem_of_getElem? (i := 96) rfl)) rfl
theorem b_1340 : Cond.methodLink RL 155 yX11_fewest ∈ BIG := bi (tin_5 _ (List.mem_of_getElem? (i := 21) rfl)) rfl
theorem b_1341 : Cond.methodLink RL 158 yX12_fewest ∈ BIG := bi (tin_8 _ (List.mem_of_getElem? (i := 100) rfl)) rfl
theorem b_1342 : Cond.methodLink RL 159 yX11_once ∈ BIG := bi (tin_5 _ (List.mem_of_getElem? (i := 25) rfl)) rfl
theorem b_1343 : Cond.methodLink RL 162 yX12_once ∈ BIG := bi (tin_8 _ (List.mem_of_getElem? (i := 104) rfl)) rfl
theorem b_1344 : Cond.methodLink RL 163 yX11_late ∈ BIG := bi (tin_5 _ (List.mem_of_getElem? (i := 35) rfl)) rfl
theorem b_1345 : Cond.methodLink RL 166 yX12_late ∈ BIG := bi (tin_8 _ (List.mem_of_getElem? (i := 108) rfl)) rfl
theorem b_1346 : Cond.methodLink RL 167 yX11_calm ∈ BIG := bi (tin_5 _ (List.mem_of_getElem? (i := 40) rfl)) rfl
theorem b_1347 : Cond.methodLink RL 170 yX12_calm ∈ BIG := bi (tin_8 _ (List.mem_of_getElem? (i := 112) rfl)) rfl
theorem b_1348 : Cond.methodLink RL 171 yX11_shock ∈ BIG := bi (tin_5 _ (List.mem_of_getElem? (i := 44) rfl)) rfl
theorem b_1349 : Cond.methodLink RL 174 yX12_shock ∈ BIG := bi (tin_8 _ (List.mem_of_getElem? (i := 116) rfl)) rfl
theorem b_1350 : Cond.methodLink RL 175 yX11_unsaid ∈ BIG := bi (tin_5 _ (List.mem_of_getElem? (i := 48) rfl)) rfl
theorem b_1351 : Cond.methodLink RL 178 yX12_unsaid ∈ BIG := bi (tin_8 _ (List.mem_of_getElem? (i := 120) rfl)) rfl
theorem b_1352 : Cond.methodLink RL 179 yX11_idle ∈ BIG := bi (tin_5 _ (List.mem_of_getElem? (i := 56) rfl)) rfl
theorem b_1353 : Cond.methodLink RL 182 yX12_idle ∈ BIG := bi (tin_8 _ (List.mem_of_getElem? (i := 124) rfl)) rfl
theorem b_1354 : Cond.methodLink RL 183 yX11_enough ∈ BIG := bi (tin_5 _ (List.mem_of_getElem? (i := 64) rfl)) rfl
theorem b_1355 : Cond.methodLink RL 186 yX12_enough ∈ BIG := bi (tin_8 _ (List.mem_of_getElem? (i := 128) rfl)) rfl
theorem b_1356 : Cond.methodLink RL 187 yX11_even ∈ BIG := bi (tin_5 _ (List.mem_of_getElem? (i := 69) rfl)) rfl
theorem b_1357 : Cond.methodLink RL 190 yX12_even ∈ BIG := bi (tin_8 _ (List.mem_of_getElem? (i := 164) rfl)) rfl
theorem b_1358 : Cond.methodLink RL 191 yX11_steps ∈ BIG := bi (tin_5 _ (List.mem_of_getElem? (i := 76) rfl)) rfl
theorem b_1359 : Cond.methodLink RL 194 yX12_steps ∈ BIG := bi (tin_8 _ (List.mem_of_getElem? (i := 172) rfl)) rfl
theorem b_1360 : Cond.methodLink RL 195 yX11_risk ∈ BIG := bi (tin_5 _ (List.mem_of_getElem? (i := 81) rfl)) rfl
theorem b_1361 : Cond.methodLink RL 198 yX12_risk ∈ BIG := bi (tin_8 _ (List.mem_of_getElem? (i := 177) rfl)) rfl
theorem b_1362 : Cond.methodLink RL 199 yX11_now ∈ BIG := bi (tin_5 _ (List.mem_of_getElem? (i := 108) rfl)) rfl
theorem b_1363 : Cond.methodLink RL 202 yX12_now ∈ BIG := bi (tin_8 _ (List.mem_of_getElem? (i := 181) rfl)) rfl
theorem b_1364 : Cond.methodLink RL 203 yX11_soon ∈ BIG := bi (tin_5 _ (List.mem_of_getElem? (i := 112) rfl)) rfl
theorem b_1365 : Cond.methodLink RL 206 yX12_soon ∈ BIG := bi (tin_8 _ (List.mem_of_getElem? (i := 185) rfl)) rfl
theorem b_1366 : Cond.methodLink RL 207 yX11_suspects ∈ BIG := bi (tin_5 _ (List.mem_of_getElem? (i := 122) rfl)) rfl
theorem b_1367 : Cond.methodLink RL 210 yX12_suspects ∈ BIG := bi (tin_8 _ (List.mem_of_getElem? (i := 193) rfl)) rfl
theorem b_1368 : Cond.methodLink RL 211 yX11_knew ∈ BIG := bi (tin_5 _ (List.mem_of_getElem? (i := 140) rfl)) rfl
theorem b_1369 : Cond.methodLink RL 214 yX12_knew ∈ BIG := bi (tin_8 _ (List.mem_of_getElem? (i := 201) rfl)) rfl
theorem b_1370 : Cond.methodLink RL 215 yX11_reckoned ∈ BIG := bi (tin_5 _ (List.mem_of_getElem? (i := 148) rfl)) rfl
theorem b_1371 : Cond.methodLink RL 218 yX12_reckoned ∈ BIG := bi (tin_8 _ (List.mem_of_getElem? (i := 209) rfl)) rfl
theorem b_1372 : Cond.methodLink RL 219 yX11_ends ∈ BIG := bi (tin_5 _ (List.mem_of_getElem? (i := 161) rfl)) rfl
theorem b_1373 : Cond.methodLink RL 222 yX12_ends ∈ BIG := bi (tin_8 _ (List.mem_of_getElem? (i := 217) rfl)) rfl
theorem b_1374 : Cond.methodLink RL 223 yX11_joined ∈ BIG := bi (tin_5 _ (List.mem_of_getElem? (i := 165) rfl)) rfl
theorem b_1375 : Cond.methodLink RL 226 yX12_joined ∈ BIG := bi (tin_8 _ (List.mem_of_getElem? (i := 221) rfl)) rfl
theorem b_1376 : Cond.methodLink RL 227 yX11_letter ∈ BIG := bi (tin_5 _ (List.mem_of_getElem? (i := 187) rfl)) rfl
theorem b_1377 : Cond.methodLink RL 230 yX12_letter ∈ BIG := bi (tin_9 _ (List.mem_of_getElem? (i := 2) rfl)) rfl
theorem b_1378 : Cond.methodLink RL 231 yX11_all ∈ BIG := bi (tin_5 _ (List.mem_of_getElem? (i := 191) rfl)) rfl
theorem b_1379 : Cond.methodLink RL 234 yX12_all ∈ BIG := bi (tin_9 _ (List.mem_of_getElem? (i := 6) rfl)) rfl
theorem b_1380 : Cond.methodLink RL 235 yX11_heard ∈ BIG := bi (tin_5 _ (List.mem_of_getElem? (i := 195) rfl)) rfl
theorem b_1381 : Cond.methodLink RL 238 yX12_heard ∈ BIG := bi (tin_9 _ (List.mem_of_getElem? (i := 10) rfl)) rfl
theorem b_1382 : Cond.methodLink RL 239 yX11_whom ∈ BIG := bi (tin_5 _ (List.mem_of_getElem? (i := 207) rfl)) rfl
theorem b_1383 : Cond.methodLink RL 242 yX12_whom ∈ BIG := bi (tin_9 _ (List.mem_of_getElem? (i := 22) rfl)) rfl
theorem b_1384 : Cond.methodLink RL 243 yX11_first ∈ BIG := bi (tin_5 _ (List.mem_of_getElem? (i := 218) rfl)) rfl
theorem b_1385 : Cond.methodLink RL 246 yX12_first ∈ BIG := bi (tin_9 _ (List.mem_of_getElem? (i := 30) rfl)) rfl
theorem b_1386 : Cond.methodLink RL 247 yX11_read ∈ BIG := bi (tin_5 _ (List.mem_of_getElem? (i := 222) rfl)) rfl
theorem b_1387 : Cond.methodLink RL 250 yX12_read ∈ BIG := bi (tin_9 _ (List.mem_of_getElem? (i := 34) rfl)) rfl
theorem b_1388 : Cond.methodLink RL 251 yX11_guess ∈ BIG := bi (tin_5 _ (List.mem_of_getElem? (i := 230) rfl)) rfl
theorem b_1389 : Cond.methodLink RL 254 yX12_guess ∈ BIG := bi (tin_9 _ (List.mem_of_getElem? (i := 42) rfl)) rfl
theorem b_1390 : Cond.methodLink RL 255 yX11_worsen ∈ BIG := bi (tin_5 _ (List.mem_of_getElem? (i := 234) rfl)) rfl
theorem b_1391 : Cond.methodLink RL 258 yX12_worsen ∈ BIG := bi (tin_9 _ (List.mem_of_getElem? (i := 46) rfl)) rfl
theorem b_1392 : Cond.methodLink RL 259 yX11_really ∈ BIG := bi (tin_6 _ (List.mem_of_getElem? (i := 14) rfl)) rfl
theorem b_1393 : Cond.methodLink RL 262 yX12_really ∈ BIG := bi (tin_9 _ (List.mem_of_getElem? (i := 55) rfl)) rfl
theorem b_1394 : Cond.methodLink RL 263 yX11_doubt ∈ BIG := bi (tin_6 _ (List.mem_of_getElem? (i := 18) rfl)) rfl
theorem b_1395 : Cond.methodLink RL 266 yX12_doubt ∈ BIG := bi (tin_9 _ (List.mem_of_getElem? (i := 59) rfl)) rfl
theorem b_1396 : Cond.methodLink RL 267 yX11_undo ∈ BIG := bi (tin_6 _ (List.mem_of_getElem? (i := 22) rfl)) rfl
theorem b_1397 : Cond.methodLink RL 270 yX12_undo ∈ BIG := bi (tin_9 _ (List.mem_of_getElem? (i := 64) rfl)) rfl
theorem b_1398 : Cond.methodLink RL 271 yX11_drawn ∈ BIG := bi (tin_6 _ (List.mem_of_getElem? (i := 26) rfl)) rfl
theorem b_1399 : Cond.methodLink RL 274 yX12_drawn ∈ BIG := bi (tin_9 _ (List.mem_of_getElem? (i := 68) rfl)) rfl
theorem b_1400 : Cond.methodLink RL 275 yX11_leaks ∈ BIG := bi (tin_6 _ (List.mem_of_getElem? (i := 48) rfl)) rfl
theorem b_1401 : Cond.methodLink RL 278 yX12_leaks ∈ BIG := bi (tin_9 _ (List.mem_of_getElem? (i := 84) rfl)) rfl
theorem b_1402 : Cond.methodLink RL 279 yX11_count ∈ BIG := bi (tin_6 _ (List.mem_of_getElem? (i := 52) rfl)) rfl
theorem b_1403 : Cond.methodLink RL 282 yX12_count ∈ BIG := bi (tin_9 _ (List.mem_of_getElem? (i := 88) rfl)) rfl
theorem b_1404 : Cond.methodLink RL 283 yX11_image ∈ BIG := bi (tin_6 _ (List.mem_of_getElem? (i := 60) rfl)) rfl
theorem b_1405 : Cond.methodLink RL 286 yX12_image ∈ BIG := bi (tin_6 _ (List.mem_of_getElem? (i := 189) rfl)) rfl
theorem b_1406 : Cond.methodLink RL 287 yX11_back ∈ BIG := bi (tin_6 _ (List.mem_of_getElem? (i := 64) rfl)) rfl
theorem b_1407 : Cond.methodLink RL 290 yX12_back ∈ BIG := bi (tin_6 _ (List.mem_of_getElem? (i := 197) rfl)) rfl
theorem b_1408 : Cond.methodLink RL 291 yX11_row ∈ BIG := bi (tin_6 _ (List.mem_of_getElem? (i := 68) rfl)) rfl
theorem b_1409 : Cond.methodLink RL 294 yX12_row ∈ BIG := bi (tin_9 _ (List.mem_of_getElem? (i := 93) rfl)) rfl
theorem b_1410 : Cond.constantLong RL 295 (4294967295) ∈ BIG := bi (tin_9 _ (List.mem_of_getElem? (i := 108) rfl)) rfl
theorem b_1411 : Cond.methodLink RL 297 yX11_write ∈ BIG := bi (tin_6 _ (List.mem_of_getElem? (i := 79) rfl)) rfl
theorem b_1412 : Cond.methodLink RL 301 yX12_write ∈ BIG := bi (tin_9 _ (List.mem_of_getElem? (i := 97) rfl)) rfl
theorem b_1413 : Cond.methodLink RL 302 yX11_paste ∈ BIG := bi (tin_6 _ (List.mem_of_getElem? (i := 87) rfl)) rfl
theorem b_1414 : Cond.methodLink RL 305 yX12_paste ∈ BIG := bi (tin_9 _ (List.mem_of_getElem? (i := 104) rfl)) rfl
theorem b_1415 : Cond.code yX11_all cX11_all 1 (some .int) ∈ BIG := bi (tin_5 _ (List.mem_of_getElem? (i := 194) rfl)) rfl
theorem b_1416 : Cond.instanceMethod yX11_all ∈ BIG := bi (tin_5 _ (List.mem_of_getElem? (i := 192) rfl)) rfl
theorem b_1417 : Cond.selects RX11 yX11_all yX11_all ∈ BIG := bi (tin_5 _ (List.mem_of_getElem? (i := 193) rfl)) rfl
theorem b_1418 : Cond.code yX11_back cX11_back 3 (some .int) ∈ BIG := bi (tin_6 _ (List.mem_of_getElem? (i := 67) rfl)) rfl
theorem b_1419 : Cond.instanceMethod yX11_back ∈ BIG := bi (tin_6 _ (List.mem_of_getElem? (i := 65) rfl)) rfl
theorem b_1420 : Cond.selects RX11 yX11_back yX11_back ∈ BIG := bi (tin_6 _ (List.mem_of_getElem? (i := 66) rfl)) rfl
theorem b_1421 : Cond.code yX11_behind cX11_behind 3 (some .int) ∈ BIG := bi (tin_3 _ (List.mem_of_getElem? (i := 229) rfl)) rfl
theorem b_1422 : Cond.instanceMethod yX11_behind ∈ BIG := bi (tin_3 _ (List.mem_of_getElem? (i := 227) rfl)) rfl
theorem b_1423 : Cond.selects RX11 yX11_behind yX11_behind ∈ BIG := bi (tin_3 _ (List.mem_of_getElem? (i := 228) rfl)) rfl
theorem b_1424 : Cond.code yX11_believes cX11_believes 3 (some .int) ∈ BIG := bi (tin_4 _ (List.mem_of_getElem? (i := 19) rfl)) rfl
theorem b_1425 : Cond.instanceMethod yX11_believes ∈ BIG := bi (tin_4 _ (List.mem_of_getElem? (i := 17) rfl)) rfl
theorem b_1426 : Cond.selects RX11 yX11_believes yX11_believes ∈ BIG := bi (tin_4 _ (List.mem_of_getElem? (i := 18) rfl)) rfl
theorem b_1427 : Cond.code yX11_calm cX11_calm 5 (some .int) ∈ BIG := bi (tin_5 _ (List.mem_of_getElem? (i := 43) rfl)) rfl
theorem b_1428 : Cond.instanceMethod yX11_calm ∈ BIG := bi (tin_5 _ (List.mem_of_getElem? (i := 41) rfl)) rfl
theorem b_1429 : Cond.selects RX11 yX11_calm yX11_calm ∈ BIG := bi (tin_5 _ (List.mem_of_getElem? (i := 42) rfl)) rfl
theorem b_1430 : Cond.code yX11_chance cX11_chance 5 (some .int) ∈ BIG := bi (tin_3 _ (List.mem_of_getElem? (i := 212) rfl)) rfl
theorem b_1431 : Cond.instanceMethod yX11_chance ∈ BIG := bi (tin_3 _ (List.mem_of_getElem? (i := 210) rfl)) rfl
theorem b_1432 : Cond.selects RX11 yX11_chance yX11_chance ∈ BIG := bi (tin_3 _ (List.mem_of_getElem? (i := 211) rfl)) rfl
theorem b_1433 : Cond.code yX11_count cX11_count 2 (some .int) ∈ BIG := bi (tin_6 _ (List.mem_of_getElem? (i := 55) rfl)) rfl
theorem b_1434 : Cond.instanceMethod yX11_count ∈ BIG := bi (tin_6 _ (List.mem_of_getElem? (i := 53) rfl)) rfl
theorem b_1435 : Cond.selects RX11 yX11_count yX11_count ∈ BIG := bi (tin_6 _ (List.mem_of_getElem? (i := 54) rfl)) rfl
theorem b_1436 : Cond.code yX11_desk cX11_desk 1 (some .int) ∈ BIG := bi (tin_2 _ (List.mem_of_getElem? (i := 206) rfl)) rfl
theorem b_1437 : Cond.instanceMethod yX11_desk ∈ BIG := bi (tin_2 _ (List.mem_of_getElem? (i := 204) rfl)) rfl
theorem b_1438 : Cond.selects RX11 yX11_desk yX11_desk ∈ BIG := bi (tin_2 _ (List.mem_of_getElem? (i := 205) rfl)) rfl
theorem b_1439 : Cond.code yX11_doubt cX11_doubt 4 (some .int) ∈ BIG := bi (tin_6 _ (List.mem_of_getElem? (i := 21) rfl)) rfl
theorem b_1440 : Cond.instanceMethod yX11_doubt ∈ BIG := bi (tin_6 _ (List.mem_of_getElem? (i := 19) rfl)) rfl
theorem b_1441 : Cond.selects RX11 yX11_doubt yX11_doubt ∈ BIG := bi (tin_6 _ (List.mem_of_getElem? (i := 20) rfl)) rfl
theorem b_1442 : Cond.code yX11_drawn cX11_drawn 7 (some .int) ∈ BIG := bi (tin_6 _ (List.mem_of_getElem? (i := 29) rfl)) rfl
theorem b_1443 : Cond.instanceMethod yX11_drawn ∈ BIG := bi (tin_6 _ (List.mem_of_getElem? (i := 27) rfl)) rfl
theorem b_1444 : Cond.selects RX11 yX11_drawn yX11_drawn ∈ BIG := bi (tin_6 _ (List.mem_of_getElem? (i := 28) rfl)) rfl
theorem b_1445 : Cond.code yX11_end cX11_end 2 (some .int) ∈ BIG := bi (tin_2 _ (List.mem_of_getElem? (i := 202) rfl)) rfl
theorem b_1446 : Cond.instanceMethod yX11_end ∈ BIG := bi (tin_2 _ (List.mem_of_getElem? (i := 200) rfl)) rfl
theorem b_1447 : Cond.selects RX11 yX11_end yX11_end ∈ BIG := bi (tin_2 _ (List.mem_of_getElem? (i := 201) rfl)) rfl
theorem b_1448 : Cond.code yX11_ends cX11_ends 2 (some .int) ∈ BIG := bi (tin_5 _ (List.mem_of_getElem? (i := 164) rfl)) rfl
theorem b_1449 : Cond.instanceMethod yX11_ends ∈ BIG := bi (tin_5 _ (List.mem_of_getElem? (i := 162) rfl)) rfl
theorem b_1450 : Cond.selects RX11 yX11_ends yX11_ends ∈ BIG := bi (tin_5 _ (List.mem_of_getElem? (i := 163) rfl)) rfl
theorem b_1451 : Cond.code yX11_enough cX11_enough 4 (some .int) ∈ BIG := bi (tin_5 _ (List.mem_of_getElem? (i := 67) rfl)) rfl
theorem b_1452 : Cond.instanceMethod yX11_enough ∈ BIG := bi (tin_5 _ (List.mem_of_getElem? (i := 65) rfl)) rfl
theorem b_1453 : Cond.selects RX11 yX11_enough yX11_enough ∈ BIG := bi (tin_5 _ (List.mem_of_getElem? (i := 66) rfl)) rfl
theorem b_1454 : Cond.code yX11_even cX11_even 3 (some .int) ∈ BIG := bi (tin_5 _ (List.mem_of_getElem? (i := 72) rfl)) rfl
theorem b_1455 : Cond.instanceMethod yX11_even ∈ BIG := bi (tin_5 _ (List.mem_of_getElem? (i := 70) rfl)) rfl
theorem b_1456 : Cond.selects RX11 yX11_even yX11_even ∈ BIG := bi (tin_5 _ (List.mem_of_getElem? (i := 71) rfl)) rfl
theorem b_1457 : Cond.code yX11_fault cX11_fault 2 (some .int) ∈ BIG := bi (tin_3 _ (List.mem_of_getElem? (i := 135) rfl)) rfl
theorem b_1458 : Cond.instanceMethod yX11_fault ∈ BIG := bi (tin_3 _ (List.mem_of_getElem? (i := 133) rfl)) rfl
theorem b_1459 : Cond.selects RX11 yX11_fault yX11_fault ∈ BIG := bi (tin_3 _ (List.mem_of_getElem? (i := 134) rfl)) rfl
theorem b_1460 : Cond.code yX11_feed cX11_feed 7 (some .int) ∈ BIG := bi (tin_2 _ (List.mem_of_getElem? (i := 194) rfl)) rfl
theorem b_1461 : Cond.instanceMethod yX11_feed ∈ BIG := bi (tin_2 _ (List.mem_of_getElem? (i := 192) rfl)) rfl
theorem b_1462 : Cond.selects RX11 yX11_feed yX11_feed ∈ BIG := bi (tin_2 _ (List.mem_of_getElem? (i := 193) rfl)) rfl
theorem b_1463 : Cond.code yX11_fewest cX11_fewest 2 (some .int) ∈ BIG := bi (tin_5 _ (List.mem_of_getElem? (i := 24) rfl)) rfl
theorem b_1464 : Cond.instanceMethod yX11_fewest ∈ BIG := bi (tin_5 _ (List.mem_of_getElem? (i := 22) rfl)) rfl
theorem b_1465 : Cond.selects RX11 yX11_fewest yX11_fewest ∈ BIG := bi (tin_5 _ (List.mem_of_getElem? (i := 23) rfl)) rfl
theorem b_1466 : Cond.code yX11_first cX11_first 1 (some .int) ∈ BIG := bi (tin_5 _ (List.mem_of_getElem? (i := 221) rfl)) rfl
theorem b_1467 : Cond.instanceMethod yX11_first ∈ BIG := bi (tin_5 _ (List.mem_of_getElem? (i := 219) rfl)) rfl
theorem b_1468 : Cond.selects RX11 yX11_first yX11_first ∈ BIG := bi (tin_5 _ (List.mem_of_getElem? (i := 220) rfl)) rfl
theorem b_1469 : Cond.code yX11_gentlest cX11_gentlest 2 (some .int) ∈ BIG := bi (tin_5 _ (List.mem_of_getElem? (i := 4) rfl)) rfl
theorem b_1470 : Cond.instanceMethod yX11_gentlest ∈ BIG := bi (tin_5 _ (List.mem_of_getElem? (i := 2) rfl)) rfl
theorem b_1471 : Cond.selects RX11 yX11_gentlest yX11_gentlest ∈ BIG := bi (tin_5 _ (List.mem_of_getElem? (i := 3) rfl)) rfl
theorem b_1472 : Cond.code yX11_gently cX11_gently 3 (some .int) ∈ BIG := bi (tin_5 _ (List.mem_of_getElem? (i := 8) rfl)) rfl
theorem b_1473 : Cond.instanceMethod yX11_gently ∈ BIG := bi (tin_5 _ (List.mem_of_getElem? (i := 6) rfl)) rfl
theorem b_1474 : Cond.selects RX11 yX11_gently yX11_gently ∈ BIG := bi (tin_5 _ (List.mem_of_getElem? (i := 7) rfl)) rfl
theorem b_1475 : Cond.code yX11_grade cX11_grade 2 (some .int) ∈ BIG := bi (tin_3 _ (List.mem_of_getElem? (i := 139) rfl)) rfl
theorem b_1476 : Cond.instanceMethod yX11_grade ∈ BIG := bi (tin_3 _ (List.mem_of_getElem? (i := 137) rfl)) rfl
theorem b_1477 : Cond.selects RX11 yX11_grade yX11_grade ∈ BIG := bi (tin_3 _ (List.mem_of_getElem? (i := 138) rfl)) rfl
theorem b_1478 : Cond.code yX11_guess cX11_guess 5 (some .int) ∈ BIG := bi (tin_5 _ (List.mem_of_getElem? (i := 233) rfl)) rfl
theorem b_1479 : Cond.instanceMethod yX11_guess ∈ BIG := bi (tin_5 _ (List.mem_of_getElem? (i := 231) rfl)) rfl
theorem b_1480 : Cond.selects RX11 yX11_guess yX11_guess ∈ BIG := bi (tin_5 _ (List.mem_of_getElem? (i := 232) rfl)) rfl
theorem b_1481 : Cond.code yX11_heard cX11_heard 3 (some .int) ∈ BIG := bi (tin_5 _ (List.mem_of_getElem? (i := 198) rfl)) rfl
theorem b_1482 : Cond.instanceMethod yX11_heard ∈ BIG := bi (tin_5 _ (List.mem_of_getElem? (i := 196) rfl)) rfl
theorem b_1483 : Cond.selects RX11 yX11_heard yX11_heard ∈ BIG := bi (tin_5 _ (List.mem_of_getElem? (i := 197) rfl)) rfl
theorem b_1484 : Cond.code yX11_honest cX11_honest 3 (some .int) ∈ BIG := bi (tin_5 _ (List.mem_of_getElem? (i := 0) rfl)) rfl
theorem b_1485 : Cond.instanceMethod yX11_honest ∈ BIG := bi (tin_4 _ (List.mem_of_getElem? (i := 238) rfl)) rfl
theorem b_1486 : Cond.selects RX11 yX11_honest yX11_honest ∈ BIG := bi (tin_4 _ (List.mem_of_getElem? (i := 239) rfl)) rfl
theorem b_1487 : Cond.code yX11_hope cX11_hope 6 (some .int) ∈ BIG := bi (tin_5 _ (List.mem_of_getElem? (i := 20) rfl)) rfl
theorem b_1488 : Cond.instanceMethod yX11_hope ∈ BIG := bi (tin_5 _ (List.mem_of_getElem? (i := 18) rfl)) rfl
theorem b_1489 : Cond.selects RX11 yX11_hope yX11_hope ∈ BIG := bi (tin_5 _ (List.mem_of_getElem? (i := 19) rfl)) rfl
theorem b_1490 : Cond.code yX11_hurt cX11_hurt 4 (some .int) ∈ BIG := bi (tin_4 _ (List.mem_of_getElem? (i := 2) rfl)) rfl
theorem b_1491 : Cond.instanceMethod yX11_hurt ∈ BIG := bi (tin_4 _ (List.mem_of_getElem? (i := 0) rfl)) rfl
theorem b_1492 : Cond.selects RX11 yX11_hurt yX11_hurt ∈ BIG := bi (tin_4 _ (List.mem_of_getElem? (i := 1) rfl)) rfl
theorem b_1493 : Cond.code yX11_hurts cX11_hurts 4 (some .int) ∈ BIG := bi (tin_4 _ (List.mem_of_getElem? (i := 53) rfl)) rfl
theorem b_1494 : Cond.instanceMethod yX11_hurts ∈ BIG := bi (tin_4 _ (List.mem_of_getElem? (i := 51) rfl)) rfl
theorem b_1495 : Cond.selects RX11 yX11_hurts yX11_hurts ∈ BIG := bi (tin_4 _ (List.mem_of_getElem? (i := 52) rfl)) rfl
theorem b_1496 : Cond.code yX11_idle cX11_idle 3 (some .int) ∈ BIG := bi (tin_5 _ (List.mem_of_getElem? (i := 59) rfl)) rfl
theorem b_1497 : Cond.instanceMethod yX11_idle ∈ BIG := bi (tin_5 _ (List.mem_of_getElem? (i := 57) rfl)) rfl
theorem b_1498 : Cond.selects RX11 yX11_idle yX11_idle ∈ BIG := bi (tin_5 _ (List.mem_of_getElem? (i := 58) rfl)) rfl
theorem b_1499 : Cond.code yX11_image cX11_image 3 (some .int) ∈ BIG := bi (tin_6 _ (List.mem_of_getElem? (i := 63) rfl)) rfl
theorem b_1500 : Cond.instanceMethod yX11_image ∈ BIG := bi (tin_6 _ (List.mem_of_getElem? (i := 61) rfl)) rfl
theorem b_1501 : Cond.selects RX11 yX11_image yX11_image ∈ BIG := bi (tin_6 _ (List.mem_of_getElem? (i := 62) rfl)) rfl
theorem b_1502 : Cond.code yX11_joined cX11_joined 2 (some .int) ∈ BIG := bi (tin_5 _ (List.mem_of_getElem? (i := 168) rfl)) rfl
theorem b_1503 : Cond.instanceMethod yX11_joined ∈ BIG := bi (tin_5 _ (List.mem_of_getElem? (i := 166) rfl)) rfl
theorem b_1504 : Cond.selects RX11 yX11_joined yX11_joined ∈ BIG := bi (tin_5 _ (List.mem_of_getElem? (i := 167) rfl)) rfl
theorem b_1505 : Cond.code yX11_knew cX11_knew 4 (some .int) ∈ BIG := bi (tin_5 _ (List.mem_of_getElem? (i := 143) rfl)) rfl
theorem b_1506 : Cond.instanceMethod yX11_knew ∈ BIG := bi (tin_5 _ (List.mem_of_getElem? (i := 141) rfl)) rfl
theorem b_1507 : Cond.selects RX11 yX11_knew yX11_knew ∈ BIG := bi (tin_5 _ (List.mem_of_getElem? (i := 142) rfl)) rfl
theorem b_1508 : Cond.code yX11_known cX11_known 3 (some .int) ∈ BIG := bi (tin_4 _ (List.mem_of_getElem? (i := 116) rfl)) rfl
theorem b_1509 : Cond.instanceMethod yX11_known ∈ BIG := bi (tin_4 _ (List.mem_of_getElem? (i := 114) rfl)) rfl
theorem b_1510 : Cond.selects RX11 yX11_known yX11_known ∈ BIG := bi (tin_4 _ (List.mem_of_getElem? (i := 115) rfl)) rfl
theorem b_1511 : Cond.code yX11_late cX11_late 5 (some .int) ∈ BIG := bi (tin_5 _ (List.mem_of_getElem? (i := 38) rfl)) rfl
theorem b_1512 : Cond.instanceMethod yX11_late ∈ BIG := bi (tin_5 _ (List.mem_of_getElem? (i := 36) rfl)) rfl
theorem b_1513 : Cond.selects RX11 yX11_late yX11_late ∈ BIG := bi (tin_5 _ (List.mem_of_getElem? (i := 37) rfl)) rfl
theorem b_1514 : Cond.code yX11_leaks cX11_leaks 5 (some .int) ∈ BIG := bi (tin_6 _ (List.mem_of_getElem? (i := 51) rfl)) rfl
theorem b_1515 : Cond.instanceMethod yX11_leaks ∈ BIG := bi (tin_6 _ (List.mem_of_getElem? (i := 49) rfl)) rfl
theorem b_1516 : Cond.selects RX11 yX11_leaks yX11_leaks ∈ BIG := bi (tin_6 _ (List.mem_of_getElem? (i := 50) rfl)) rfl
theorem b_1517 : Cond.code yX11_least cX11_least 2 (some .int) ∈ BIG := bi (tin_4 _ (List.mem_of_getElem? (i := 220) rfl)) rfl
theorem b_1518 : Cond.instanceMethod yX11_least ∈ BIG := bi (tin_4 _ (List.mem_of_getElem? (i := 218) rfl)) rfl
theorem b_1519 : Cond.selects RX11 yX11_least yX11_least ∈ BIG := bi (tin_4 _ (List.mem_of_getElem? (i := 219) rfl)) rfl
theorem b_1520 : Cond.code yX11_left cX11_left 4 (some .int) ∈ BIG := bi (tin_4 _ (List.mem_of_getElem? (i := 81) rfl)) rfl
theorem b_1521 : Cond.instanceMethod yX11_left ∈ BIG := bi (tin_4 _ (List.mem_of_getElem? (i := 79) rfl)) rfl
theorem b_1522 : Cond.selects RX11 yX11_left yX11_left ∈ BIG := bi (tin_4 _ (List.mem_of_getElem? (i := 80) rfl)) rfl
theorem b_1523 : Cond.code yX11_letter cX11_letter 3 (some .int) ∈ BIG := bi (tin_5 _ (List.mem_of_getElem? (i := 190) rfl)) rfl
theorem b_1524 : Cond.instanceMethod yX11_letter ∈ BIG := bi (tin_5 _ (List.mem_of_getElem? (i := 188) rfl)) rfl
theorem b_1525 : Cond.selects RX11 yX11_letter yX11_letter ∈ BIG := bi (tin_5 _ (List.mem_of_getElem? (i := 189) rfl)) rfl
theorem b_1526 : Cond.code yX11_lies cX11_lies 3 (some .int) ∈ BIG := bi (tin_4 _ (List.mem_of_getElem? (i := 94) rfl)) rfl
theorem b_1527 : Cond.instanceMethod yX11_lies ∈ BIG := bi (tin_4 _ (List.mem_of_getElem? (i := 92) rfl)) rfl
theorem b_1528 : Cond.selects RX11 yX11_lies yX11_lies ∈ BIG := bi (tin_4 _ (List.mem_of_getElem? (i := 93) rfl)) rfl
theorem b_1529 : Cond.code yX11_mean cX11_mean 3 (some .int) ∈ BIG := bi (tin_3 _ (List.mem_of_getElem? (i := 195) rfl)) rfl
theorem b_1530 : Cond.instanceMethod yX11_mean ∈ BIG := bi (tin_3 _ (List.mem_of_getElem? (i := 193) rfl)) rfl
theorem b_1531 : Cond.selects RX11 yX11_mean yX11_mean ∈ BIG := bi (tin_3 _ (List.mem_of_getElem? (i := 194) rfl)) rfl
theorem b_1532 : Cond.code yX11_news cX11_news 2 (some .int) ∈ BIG := bi (tin_3 _ (List.mem_of_getElem? (i := 183) rfl)) rfl
theorem b_1533 : Cond.instanceMethod yX11_news ∈ BIG := bi (tin_3 _ (List.mem_of_getElem? (i := 181) rfl)) rfl
theorem b_1534 : Cond.selects RX11 yX11_news yX11_news ∈ BIG := bi (tin_3 _ (List.mem_of_getElem? (i := 182) rfl)) rfl
theorem b_1535 : Cond.code yX11_now cX11_now 4 (some .int) ∈ BIG := bi (tin_5 _ (List.mem_of_getElem? (i := 111) rfl)) rfl
theorem b_1536 : Cond.instanceMethod yX11_now ∈ BIG := bi (tin_5 _ (List.mem_of_getElem? (i := 109) rfl)) rfl
theorem b_1537 : Cond.selects RX11 yX11_now yX11_now ∈ BIG := bi (tin_5 _ (List.mem_of_getElem? (i := 110) rfl)) rfl
theorem b_1538 : Cond.code yX11_once cX11_once 2 (some .int) ∈ BIG := bi (tin_5 _ (List.mem_of_getElem? (i := 28) rfl)) rfl
theorem b_1539 : Cond.instanceMethod yX11_once ∈ BIG := bi (tin_5 _ (List.mem_of_getElem? (i := 26) rfl)) rfl
theorem b_1540 : Cond.selects RX11 yX11_once yX11_once ∈ BIG := bi (tin_5 _ (List.mem_of_getElem? (i := 27) rfl)) rfl
theorem b_1541 : Cond.code yX11_ordered cX11_ordered 5 (some .int) ∈ BIG := bi (tin_4 _ (List.mem_of_getElem? (i := 165) rfl)) rfl
theorem b_1542 : Cond.instanceMethod yX11_ordered ∈ BIG := bi (tin_4 _ (List.mem_of_getElem? (i := 163) rfl)) rfl
theorem b_1543 : Cond.selects RX11 yX11_ordered yX11_ordered ∈ BIG := bi (tin_4 _ (List.mem_of_getElem? (i := 164) rfl)) rfl
theorem b_1544 : Cond.code yX11_paste cX11_paste 8 (some .int) ∈ BIG := bi (tin_6 _ (List.mem_of_getElem? (i := 90) rfl)) rfl
theorem b_1545 : Cond.instanceMethod yX11_paste ∈ BIG := bi (tin_6 _ (List.mem_of_getElem? (i := 88) rfl)) rfl
theorem b_1546 : Cond.selects RX11 yX11_paste yX11_paste ∈ BIG := bi (tin_6 _ (List.mem_of_getElem? (i := 89) rfl)) rfl
theorem b_1547 : Cond.code yX11_plan cX11_plan 3 (some .int) ∈ BIG := bi (tin_3 _ (List.mem_of_getElem? (i := 171) rfl)) rfl
theorem b_1548 : Cond.instanceMethod yX11_plan ∈ BIG := bi (tin_3 _ (List.mem_of_getElem? (i := 169) rfl)) rfl
theorem b_1549 : Cond.selects RX11 yX11_plan yX11_plan ∈ BIG := bi (tin_3 _ (List.mem_of_getElem? (i := 170) rfl)) rfl
theorem b_1550 : Cond.code yX11_read cX11_read 3 (some .int) ∈ BIG := bi (tin_5 _ (List.mem_of_getElem? (i := 225) rfl)) rfl
theorem b_1551 : Cond.instanceMethod yX11_read ∈ BIG := bi (tin_5 _ (List.mem_of_getElem? (i := 223) rfl)) rfl
theorem b_1552 : Cond.selects RX11 yX11_read yX11_read ∈ BIG := bi (tin_5 _ (List.mem_of_getElem? (i := 224) rfl)) rfl
theorem b_1553 : Cond.code yX11_really cX11_really 2 (some .int) ∈ BIG := bi (tin_6 _ (List.mem_of_getElem? (i := 17) rfl)) rfl
theorem b_1554 : Cond.instanceMethod yX11_really ∈ BIG := bi (tin_6 _ (List.mem_of_getElem? (i := 15) rfl)) rfl
theorem b_1555 : Cond.selects RX11 yX11_really yX11_really ∈ BIG := bi (tin_6 _ (List.mem_of_getElem? (i := 16) rfl)) rfl
theorem b_1556 : Cond.code yX11_reckoned cX11_reckoned 4 (some .int) ∈ BIG := bi (tin_5 _ (List.mem_of_getElem? (i := 151) rfl)) rfl
theorem b_1557 : Cond.instanceMethod yX11_reckoned ∈ BIG := bi (tin_5 _ (List.mem_of_getElem? (i := 149) rfl)) rfl
theorem b_1558 : Cond.selects RX11 yX11_reckoned yX11_reckoned ∈ BIG := bi (tin_5 _ (List.mem_of_getElem? (i := 150) rfl)) rfl
theorem b_1559 : Cond.code yX11_rest cX11_rest 5 (some .int) ∈ BIG := bi (tin_4 _ (List.mem_of_getElem? (i := 169) rfl)) rfl
theorem b_1560 : Cond.instanceMethod yX11_rest ∈ BIG := bi (tin_4 _ (List.mem_of_getElem? (i := 167) rfl)) rfl
theorem b_1561 : Cond.selects RX11 yX11_rest yX11_rest ∈ BIG := bi (tin_4 _ (List.mem_of_getElem? (i := 168) rfl)) rfl
theorem b_1562 : Cond.code yX11_risk cX11_risk 2 (some .int) ∈ BIG := bi (tin_5 _ (List.mem_of_getElem? (i := 84) rfl)) rfl
theorem b_1563 : Cond.instanceMethod yX11_risk ∈ BIG := bi (tin_5 _ (List.mem_of_getElem? (i := 82) rfl)) rfl
theorem b_1564 : Cond.selects RX11 yX11_risk yX11_risk ∈ BIG := bi (tin_5 _ (List.mem_of_getElem? (i := 83) rfl)) rfl
theorem b_1565 : Cond.code yX11_row cX11_row 5 (some .int) ∈ BIG := bi (tin_6 _ (List.mem_of_getElem? (i := 71) rfl)) rfl
theorem b_1566 : Cond.instanceMethod yX11_row ∈ BIG := bi (tin_6 _ (List.mem_of_getElem? (i := 69) rfl)) rfl
theorem b_1567 : Cond.selects RX11 yX11_row yX11_row ∈ BIG := bi (tin_6 _ (List.mem_of_getElem? (i := 70) rfl)) rfl
theorem b_1568 : Cond.code yX11_shames cX11_shames 3 (some .int) ∈ BIG := bi (tin_4 _ (List.mem_of_getElem? (i := 103) rfl)) rfl
theorem b_1569 : Cond.instanceMethod yX11_shames ∈ BIG := bi (tin_4 _ (List.mem_of_getElem? (i := 101) rfl)) rfl
theorem b_1570 : Cond.selects RX11 yX11_shames yX11_shames ∈ BIG := bi (tin_4 _ (List.mem_of_getElem? (i := 102) rfl)) rfl
theorem b_1571 : Cond.code yX11_shock cX11_shock 6 (some .int) ∈ BIG := bi (tin_5 _ (List.mem_of_getElem? (i := 47) rfl)) rfl
theorem b_1572 : Cond.instanceMethod yX11_shock ∈ BIG := bi (tin_5 _ (List.mem_of_getElem? (i := 45) rfl)) rfl
theorem b_1573 : Cond.selects RX11 yX11_shock yX11_shock ∈ BIG := bi (tin_5 _ (List.mem_of_getElem? (i := 46) rfl)) rfl
theorem b_1574 : Cond.code yX11_softer cX11_softer 4 (some .int) ∈ BIG := bi (tin_4 _ (List.mem_of_getElem? (i := 128) rfl)) rfl
theorem b_1575 : Cond.instanceMethod yX11_softer ∈ BIG := bi (tin_4 _ (List.mem_of_getElem? (i := 126) rfl)) rfl
theorem b_1576 : Cond.selects RX11 yX11_softer yX11_softer ∈ BIG := bi (tin_4 _ (List.mem_of_getElem? (i := 127) rfl)) rfl
theorem b_1577 : Cond.code yX11_softest cX11_softest 7 (some .int) ∈ BIG := bi (tin_4 _ (List.mem_of_getElem? (i := 14) rfl)) rfl
theorem b_1578 : Cond.instanceMethod yX11_softest ∈ BIG := bi (tin_4 _ (List.mem_of_getElem? (i := 12) rfl)) rfl
theorem b_1579 : Cond.selects RX11 yX11_softest yX11_softest ∈ BIG := bi (tin_4 _ (List.mem_of_getElem? (i := 13) rfl)) rfl
theorem b_1580 : Cond.code yX11_soon cX11_soon 8 (some .int) ∈ BIG := bi (tin_5 _ (List.mem_of_getElem? (i := 115) rfl)) rfl
theorem b_1581 : Cond.instanceMethod yX11_soon ∈ BIG := bi (tin_5 _ (List.mem_of_getElem? (i := 113) rfl)) rfl
theorem b_1582 : Cond.selects RX11 yX11_soon yX11_soon ∈ BIG := bi (tin_5 _ (List.mem_of_getElem? (i := 114) rfl)) rfl
theorem b_1583 : Cond.code yX11_step cX11_step 3 (some .int) ∈ BIG := bi (tin_4 _ (List.mem_of_getElem? (i := 224) rfl)) rfl
theorem b_1584 : Cond.instanceMethod yX11_step ∈ BIG := bi (tin_4 _ (List.mem_of_getElem? (i := 222) rfl)) rfl
theorem b_1585 : Cond.selects RX11 yX11_step yX11_step ∈ BIG := bi (tin_4 _ (List.mem_of_getElem? (i := 223) rfl)) rfl
theorem b_1586 : Cond.code yX11_steps cX11_steps 7 (some .int) ∈ BIG := bi (tin_5 _ (List.mem_of_getElem? (i := 79) rfl)) rfl
theorem b_1587 : Cond.instanceMethod yX11_steps ∈ BIG := bi (tin_5 _ (List.mem_of_getElem? (i := 77) rfl)) rfl
theorem b_1588 : Cond.selects RX11 yX11_steps yX11_steps ∈ BIG := bi (tin_5 _ (List.mem_of_getElem? (i := 78) rfl)) rfl
theorem b_1589 : Cond.code yX11_suspects cX11_suspects 3 (some .int) ∈ BIG := bi (tin_5 _ (List.mem_of_getElem? (i := 125) rfl)) rfl
theorem b_1590 : Cond.instanceMethod yX11_suspects ∈ BIG := bi (tin_5 _ (List.mem_of_getElem? (i := 123) rfl)) rfl
theorem b_1591 : Cond.selects RX11 yX11_suspects yX11_suspects ∈ BIG := bi (tin_5 _ (List.mem_of_getElem? (i := 124) rfl)) rfl
theorem b_1592 : Cond.code yX11_tells cX11_tells 2 (some .int) ∈ BIG := bi (tin_3 _ (List.mem_of_getElem? (i := 191) rfl)) rfl
theorem b_1593 : Cond.instanceMethod yX11_tells ∈ BIG := bi (tin_3 _ (List.mem_of_getElem? (i := 189) rfl)) rfl
theorem b_1594 : Cond.selects RX11 yX11_tells yX11_tells ∈ BIG := bi (tin_3 _ (List.mem_of_getElem? (i := 190) rfl)) rfl
theorem b_1595 : Cond.code yX11_tender cX11_tender 2 (some .int) ∈ BIG := bi (tin_5 _ (List.mem_of_getElem? (i := 12) rfl)) rfl
theorem b_1596 : Cond.instanceMethod yX11_tender ∈ BIG := bi (tin_5 _ (List.mem_of_getElem? (i := 10) rfl)) rfl
theorem b_1597 : Cond.selects RX11 yX11_tender yX11_tender ∈ BIG := bi (tin_5 _ (List.mem_of_getElem? (i := 11) rfl)) rfl
theorem b_1598 : Cond.code yX11_tenderly cX11_tenderly 3 (some .int) ∈ BIG := bi (tin_5 _ (List.mem_of_getElem? (i := 16) rfl)) rfl
theorem b_1599 : Cond.instanceMethod yX11_tenderly ∈ BIG := bi (tin_5 _ (List.mem_of_getElem? (i := 14) rfl)) rfl
theorem b_1600 : Cond.selects RX11 yX11_tenderly yX11_tenderly ∈ BIG := bi (tin_5 _ (List.mem_of_getElem? (i := 15) rfl)) rfl
theorem b_1601 : Cond.code yX11_thinks cX11_thinks 3 (some .int) ∈ BIG := bi (tin_3 _ (List.mem_of_getElem? (i := 147) rfl)) rfl
theorem b_1602 : Cond.instanceMethod yX11_thinks ∈ BIG := bi (tin_3 _ (List.mem_of_getElem? (i := 145) rfl)) rfl
theorem b_1603 : Cond.selects RX11 yX11_thinks yX11_thinks ∈ BIG := bi (tin_3 _ (List.mem_of_getElem? (i := 146) rfl)) rfl
theorem b_1604 : Cond.code yX11_truly cX11_truly 2 (some .int) ∈ BIG := bi (tin_4 _ (List.mem_of_getElem? (i := 236) rfl)) rfl
theorem b_1605 : Cond.instanceMethod yX11_truly ∈ BIG := bi (tin_4 _ (List.mem_of_getElem? (i := 234) rfl)) rfl
theorem b_1606 : Cond.selects RX11 yX11_truly yX11_truly ∈ BIG := bi (tin_4 _ (List.mem_of_getElem? (i := 235) rfl)) rfl
theorem b_1607 : Cond.code yX11_undo cX11_undo 2 (some .int) ∈ BIG := bi (tin_6 _ (List.mem_of_getElem? (i := 25) rfl)) rfl
theorem b_1608 : Cond.instanceMethod yX11_undo ∈ BIG := bi (tin_6 _ (List.mem_of_getElem? (i := 23) rfl)) rfl
theorem b_1609 : Cond.selects RX11 yX11_undo yX11_undo ∈ BIG := bi (tin_6 _ (List.mem_of_getElem? (i := 24) rfl)) rfl
theorem b_1610 : Cond.code yX11_unsaid cX11_unsaid 3 (some .int) ∈ BIG := bi (tin_5 _ (List.mem_of_getElem? (i := 51) rfl)) rfl
theorem b_1611 : Cond.instanceMethod yX11_unsaid ∈ BIG := bi (tin_5 _ (List.mem_of_getElem? (i := 49) rfl)) rfl
theorem b_1612 : Cond.selects RX11 yX11_unsaid yX11_unsaid ∈ BIG := bi (tin_5 _ (List.mem_of_getElem? (i := 50) rfl)) rfl
theorem b_1613 : Cond.code yX11_whom cX11_whom 1 (some .int) ∈ BIG := bi (tin_5 _ (List.mem_of_getElem? (i := 210) rfl)) rfl
theorem b_1614 : Cond.instanceMethod yX11_whom ∈ BIG := bi (tin_5 _ (List.mem_of_getElem? (i := 208) rfl)) rfl
theorem b_1615 : Cond.selects RX11 yX11_whom yX11_whom ∈ BIG := bi (tin_5 _ (List.mem_of_getElem? (i := 209) rfl)) rfl
theorem b_1616 : Cond.code yX11_word cX11_word 3 (some .int) ∈ BIG := bi (tin_3 _ (List.mem_of_getElem? (i := 159) rfl)) rfl
theorem b_1617 : Cond.instanceMethod yX11_word ∈ BIG := bi (tin_3 _ (List.mem_of_getElem? (i := 157) rfl)) rfl
theorem b_1618 : Cond.selects RX11 yX11_word yX11_word ∈ BIG := bi (tin_3 _ (List.mem_of_getElem? (i := 158) rfl)) rfl
theorem b_1619 : Cond.code yX11_worsen cX11_worsen 3 (some .int) ∈ BIG := bi (tin_5 _ (List.mem_of_getElem? (i := 237) rfl)) rfl
theorem b_1620 : Cond.instanceMethod yX11_worsen ∈ BIG := bi (tin_5 _ (List.mem_of_getElem? (i := 235) rfl)) rfl
theorem b_1621 : Cond.selects RX11 yX11_worsen yX11_worsen ∈ BIG := bi (tin_5 _ (List.mem_of_getElem? (i := 236) rfl)) rfl
theorem b_1622 : Cond.code yX11_worst cX11_worst 4 (some .int) ∈ BIG := bi (tin_4 _ (List.mem_of_getElem? (i := 70) rfl)) rfl
theorem b_1623 : Cond.instanceMethod yX11_worst ∈ BIG := bi (tin_4 _ (List.mem_of_getElem? (i := 68) rfl)) rfl
theorem b_1624 : Cond.selects RX11 yX11_worst yX11_worst ∈ BIG := bi (tin_4 _ (List.mem_of_getElem? (i := 69) rfl)) rfl
theorem b_1625 : Cond.code yX11_write cX11_write 6 (some .int) ∈ BIG := bi (tin_6 _ (List.mem_of_getElem? (i := 82) rfl)) rfl
theorem b_1626 : Cond.instanceMethod yX11_write ∈ BIG := bi (tin_6 _ (List.mem_of_getElem? (i := 80) rfl)) rfl
theorem b_1627 : Cond.selects RX11 yX11_write yX11_write ∈ BIG := bi (tin_6 _ (List.mem_of_getElem? (i := 81) rfl)) rfl
theorem b_1628 : Cond.code yX12_all cX12_all 1 (some .int) ∈ BIG := bi (tin_9 _ (List.mem_of_getElem? (i := 9) rfl)) rfl
theorem b_1629 : Cond.instanceMethod yX12_all ∈ BIG := bi (tin_9 _ (List.mem_of_getElem? (i := 7) rfl)) rfl
theorem b_1630 : Cond.selects RX12 yX12_all yX12_all ∈ BIG := bi (tin_9 _ (List.mem_of_getElem? (i := 8) rfl)) rfl
theorem b_1631 : Cond.code yX12_back cX12_back 3 (some .int) ∈ BIG := bi (tin_6 _ (List.mem_of_getElem? (i := 200) rfl)) rfl
theorem b_1632 : Cond.instanceMethod yX12_back ∈ BIG := bi (tin_6 _ (List.mem_of_getElem? (i := 198) rfl)) rfl
theorem b_1633 : Cond.selects RX12 yX12_back yX12_back ∈ BIG := bi (tin_6 _ (List.mem_of_getElem? (i := 199) rfl)) rfl
theorem b_1634 : Cond.code yX12_behind cX12_behind 3 (some .int) ∈ BIG := bi (tin_7 _ (List.mem_of_getElem? (i := 182) rfl)) rfl
theorem b_1635 : Cond.instanceMethod yX12_behind ∈ BIG := bi (tin_7 _ (List.mem_of_getElem? (i := 180) rfl)) rfl
theorem b_1636 : Cond.selects RX12 yX12_behind yX12_behind ∈ BIG := bi (tin_7 _ (List.mem_of_getElem? (i := 181) rfl)) rfl
theorem b_1637 : Cond.code yX12_believes cX12_believes 5 (some .int) ∈ BIG := bi (tin_7 _ (List.mem_of_getElem? (i := 211) rfl)) rfl
theorem b_1638 : Cond.instanceMethod yX12_believes ∈ BIG := bi (tin_7 _ (List.mem_of_getElem? (i := 209) rfl)) rfl
theorem b_1639 : Cond.selects RX12 yX12_believes yX12_believes ∈ BIG := bi (tin_7 _ (List.mem_of_getElem? (i := 210) rfl)) rfl
theorem b_1640 : Cond.code yX12_calm cX12_calm 5 (some .int) ∈ BIG := bi (tin_8 _ (List.mem_of_getElem? (i := 115) rfl)) rfl
theorem b_1641 : Cond.instanceMethod yX12_calm ∈ BIG := bi (tin_8 _ (List.mem_of_getElem? (i := 113) rfl)) rfl
theorem b_1642 : Cond.selects RX12 yX12_calm yX12_calm ∈ BIG := bi (tin_8 _ (List.mem_of_getElem? (i := 114) rfl)) rfl
theorem b_1643 : Cond.code yX12_chance cX12_chance 5 (some .int) ∈ BIG := bi (tin_7 _ (List.mem_of_getElem? (i := 168) rfl)) rfl
theorem b_1644 : Cond.instanceMethod yX12_chance ∈ BIG := bi (tin_7 _ (List.mem_of_getElem? (i := 166) rfl)) rfl
theorem b_1645 : Cond.selects RX12 yX12_chance yX12_chance ∈ BIG := bi (tin_7 _ (List.mem_of_getElem? (i := 167) rfl)) rfl
theorem b_1646 : Cond.code yX12_count cX12_count 4 (some .int) ∈ BIG := bi (tin_9 _ (List.mem_of_getElem? (i := 91) rfl)) rfl
theorem b_1647 : Cond.instanceMethod yX12_count ∈ BIG := bi (tin_9 _ (List.mem_of_getElem? (i := 89) rfl)) rfl
theorem b_1648 : Cond.selects RX12 yX12_count yX12_count ∈ BIG := bi (tin_9 _ (List.mem_of_getElem? (i := 90) rfl)) rfl
theorem b_1649 : Cond.code yX12_desk cX12_desk 2 (some .int) ∈ BIG := bi (tin_6 _ (List.mem_of_getElem? (i := 216) rfl)) rfl
theorem b_1650 : Cond.instanceMethod yX12_desk ∈ BIG := bi (tin_6 _ (List.mem_of_getElem? (i := 214) rfl)) rfl
theorem b_1651 : Cond.selects RX12 yX12_desk yX12_desk ∈ BIG := bi (tin_6 _ (List.mem_of_getElem? (i := 215) rfl)) rfl
theorem b_1652 : Cond.code yX12_doubt cX12_doubt 4 (some .int) ∈ BIG := bi (tin_9 _ (List.mem_of_getElem? (i := 62) rfl)) rfl
theorem b_1653 : Cond.instanceMethod yX12_doubt ∈ BIG := bi (tin_9 _ (List.mem_of_getElem? (i := 60) rfl)) rfl
theorem b_1654 : Cond.selects RX12 yX12_doubt yX12_doubt ∈ BIG := bi (tin_9 _ (List.mem_of_getElem? (i := 61) rfl)) rfl
theorem b_1655 : Cond.code yX12_drawn cX12_drawn 11 (some .int) ∈ BIG := bi (tin_9 _ (List.mem_of_getElem? (i := 71) rfl)) rfl
theorem b_1656 : Cond.instanceMethod yX12_drawn ∈ BIG := bi (tin_9 _ (List.mem_of_getElem? (i := 69) rfl)) rfl
theorem b_1657 : Cond.selects RX12 yX12_drawn yX12_drawn ∈ BIG := bi (tin_9 _ (List.mem_of_getElem? (i := 70) rfl)) rfl
theorem b_1658 : Cond.code yX12_end cX12_end 2 (some .int) ∈ BIG := bi (tin_6 _ (List.mem_of_getElem? (i := 208) rfl)) rfl
theorem b_1659 : Cond.instanceMethod yX12_end ∈ BIG := bi (tin_6 _ (List.mem_of_getElem? (i := 206) rfl)) rfl
theorem b_1660 : Cond.selects RX12 yX12_end yX12_end ∈ BIG := bi (tin_6 _ (List.mem_of_getElem? (i := 207) rfl)) rfl
theorem b_1661 : Cond.code yX12_ends cX12_ends 2 (some .int) ∈ BIG := bi (tin_8 _ (List.mem_of_getElem? (i := 220) rfl)) rfl
theorem b_1662 : Cond.instanceMethod yX12_ends ∈ BIG := bi (tin_8 _ (List.mem_of_getElem? (i := 218) rfl)) rfl
theorem b_1663 : Cond.selects RX12 yX12_ends yX12_ends ∈ BIG := bi (tin_8 _ (List.mem_of_getElem? (i := 219) rfl)) rfl
theorem b_1664 : Cond.code yX12_enough cX12_enough 4 (some .int) ∈ BIG := bi (tin_8 _ (List.mem_of_getElem? (i := 131) rfl)) rfl
theorem b_1665 : Cond.instanceMethod yX12_enough ∈ BIG := bi (tin_8 _ (List.mem_of_getElem? (i := 129) rfl)) rfl
theorem b_1666 : Cond.selects RX12 yX12_enough yX12_enough ∈ BIG := bi (tin_8 _ (List.mem_of_getElem? (i := 130) rfl)) rfl
theorem b_1667 : Cond.code yX12_even cX12_even 3 (some .int) ∈ BIG := bi (tin_8 _ (List.mem_of_getElem? (i := 167) rfl)) rfl
theorem b_1668 : Cond.instanceMethod yX12_even ∈ BIG := bi (tin_8 _ (List.mem_of_getElem? (i := 165) rfl)) rfl
theorem b_1669 : Cond.selects RX12 yX12_even yX12_even ∈ BIG := bi (tin_8 _ (List.mem_of_getElem? (i := 166) rfl)) rfl
theorem b_1670 : Cond.code yX12_fault cX12_fault 2 (some .int) ∈ BIG := bi (tin_6 _ (List.mem_of_getElem? (i := 212) rfl)) rfl
theorem b_1671 : Cond.instanceMethod yX12_fault ∈ BIG := bi (tin_6 _ (List.mem_of_getElem? (i := 210) rfl)) rfl
theorem b_1672 : Cond.selects RX12 yX12_fault yX12_fault ∈ BIG := bi (tin_6 _ (List.mem_of_getElem? (i := 211) rfl)) rfl
theorem b_1673 : Cond.code yX12_feed cX12_feed 7 (some .int) ∈ BIG := bi (tin_6 _ (List.mem_of_getElem? (i := 204) rfl)) rfl
theorem b_1674 : Cond.instanceMethod yX12_feed ∈ BIG := bi (tin_6 _ (List.mem_of_getElem? (i := 202) rfl)) rfl
theorem b_1675 : Cond.selects RX12 yX12_feed yX12_feed ∈ BIG := bi (tin_6 _ (List.mem_of_getElem? (i := 203) rfl)) rfl
theorem b_1676 : Cond.code yX12_fewest cX12_fewest 1 (some .int) ∈ BIG := bi (tin_8 _ (List.mem_of_getElem? (i := 103) rfl)) rfl
theorem b_1677 : Cond.instanceMethod yX12_fewest ∈ BIG := bi (tin_8 _ (List.mem_of_getElem? (i := 101) rfl)) rfl
theorem b_1678 : Cond.selects RX12 yX12_fewest yX12_fewest ∈ BIG := bi (tin_8 _ (List.mem_of_getElem? (i := 102) rfl)) rfl
theorem b_1679 : Cond.code yX12_first cX12_first 1 (some .int) ∈ BIG := bi (tin_9 _ (List.mem_of_getElem? (i := 33) rfl)) rfl
theorem b_1680 : Cond.instanceMethod yX12_first ∈ BIG := bi (tin_9 _ (List.mem_of_getElem? (i := 31) rfl)) rfl
theorem b_1681 : Cond.selects RX12 yX12_first yX12_first ∈ BIG := bi (tin_9 _ (List.mem_of_getElem? (i := 32) rfl)) rfl
theorem b_1682 : Cond.code yX12_gentlest cX12_gentlest 2 (some .int) ∈ BIG := bi (tin_8 _ (List.mem_of_getElem? (i := 83) rfl)) rfl
theorem b_1683 : Cond.instanceMethod yX12_gentlest ∈ BIG := bi (tin_8 _ (List.mem_of_getElem? (i := 81) rfl)) rfl
theorem b_1684 : Cond.selects RX12 yX12_gentlest yX12_gentlest ∈ BIG := bi (tin_8 _ (List.mem_of_getElem? (i := 82) rfl)) rfl
theorem b_1685 : Cond.code yX12_gently cX12_gently 3 (some .int) ∈ BIG := bi (tin_8 _ (List.mem_of_getElem? (i := 87) rfl)) rfl
theorem b_1686 : Cond.instanceMethod yX12_gently ∈ BIG := bi (tin_8 _ (List.mem_of_getElem? (i := 85) rfl)) rfl
theorem b_1687 : Cond.selects RX12 yX12_gently yX12_gently ∈ BIG := bi (tin_8 _ (List.mem_of_getElem? (i := 86) rfl)) rfl
theorem b_1688 : Cond.code yX12_grade cX12_grade 2 (some .int) ∈ BIG := bi (tin_7 _ (List.mem_of_getElem? (i := 78) rfl)) rfl
theorem b_1689 : Cond.instanceMethod yX12_grade ∈ BIG := bi (tin_7 _ (List.mem_of_getElem? (i := 76) rfl)) rfl
theorem b_1690 : Cond.selects RX12 yX12_grade yX12_grade ∈ BIG := bi (tin_7 _ (List.mem_of_getElem? (i := 77) rfl)) rfl
theorem b_1691 : Cond.code yX12_guess cX12_guess 4 (some .int) ∈ BIG := bi (tin_9 _ (List.mem_of_getElem? (i := 45) rfl)) rfl
theorem b_1692 : Cond.instanceMethod yX12_guess ∈ BIG := bi (tin_9 _ (List.mem_of_getElem? (i := 43) rfl)) rfl
theorem b_1693 : Cond.selects RX12 yX12_guess yX12_guess ∈ BIG := bi (tin_9 _ (List.mem_of_getElem? (i := 44) rfl)) rfl
theorem b_1694 : Cond.code yX12_heard cX12_heard 3 (some .int) ∈ BIG := bi (tin_9 _ (List.mem_of_getElem? (i := 13) rfl)) rfl
theorem b_1695 : Cond.instanceMethod yX12_heard ∈ BIG := bi (tin_9 _ (List.mem_of_getElem? (i := 11) rfl)) rfl
theorem b_1696 : Cond.selects RX12 yX12_heard yX12_heard ∈ BIG := bi (tin_9 _ (List.mem_of_getElem? (i := 12) rfl)) rfl
theorem b_1697 : Cond.code yX12_honest cX12_honest 3 (some .int) ∈ BIG := bi (tin_8 _ (List.mem_of_getElem? (i := 79) rfl)) rfl
theorem b_1698 : Cond.instanceMethod yX12_honest ∈ BIG := bi (tin_8 _ (List.mem_of_getElem? (i := 77) rfl)) rfl
theorem b_1699 : Cond.selects RX12 yX12_honest yX12_honest ∈ BIG := bi (tin_8 _ (List.mem_of_getElem? (i := 78) rfl)) rfl
theorem b_1700 : Cond.code yX12_hope cX12_hope 8 (some .int) ∈ BIG := bi (tin_8 _ (List.mem_of_getElem? (i := 99) rfl)) rfl
theorem b_1701 : Cond.instanceMethod yX12_hope ∈ BIG := bi (tin_8 _ (List.mem_of_getElem? (i := 97) rfl)) rfl
theorem b_1702 : Cond.selects RX12 yX12_hope yX12_hope ∈ BIG := bi (tin_8 _ (List.mem_of_getElem? (i := 98) rfl)) rfl
theorem b_1703 : Cond.code yX12_hurt cX12_hurt 4 (some .int) ∈ BIG := bi (tin_7 _ (List.mem_of_getElem? (i := 195) rfl)) rfl
theorem b_1704 : Cond.instanceMethod yX12_hurt ∈ BIG := bi (tin_7 _ (List.mem_of_getElem? (i := 193) rfl)) rfl
theorem b_1705 : Cond.selects RX12 yX12_hurt yX12_hurt ∈ BIG := bi (tin_7 _ (List.mem_of_getElem? (i := 194) rfl)) rfl
theorem b_1706 : Cond.code yX12_hurts cX12_hurts 4 (some .int) ∈ BIG := bi (tin_7 _ (List.mem_of_getElem? (i := 231) rfl)) rfl
theorem b_1707 : Cond.instanceMethod yX12_hurts ∈ BIG := bi (tin_7 _ (List.mem_of_getElem? (i := 229) rfl)) rfl
theorem b_1708 : Cond.selects RX12 yX12_hurts yX12_hurts ∈ BIG := bi (tin_7 _ (List.mem_of_getElem? (i := 230) rfl)) rfl
theorem b_1709 : Cond.code yX12_idle cX12_idle 5 (some .int) ∈ BIG := bi (tin_8 _ (List.mem_of_getElem? (i := 127) rfl)) rfl
theorem b_1710 : Cond.instanceMethod yX12_idle ∈ BIG := bi (tin_8 _ (List.mem_of_getElem? (i := 125) rfl)) rfl
theorem b_1711 : Cond.selects RX12 yX12_idle yX12_idle ∈ BIG := bi (tin_8 _ (List.mem_of_getElem? (i := 126) rfl)) rfl
theorem b_1712 : Cond.code yX12_image cX12_image 3 (some .int) ∈ BIG := bi (tin_6 _ (List.mem_of_getElem? (i := 192) rfl)) rfl
theorem b_1713 : Cond.instanceMethod yX12_image ∈ BIG := bi (tin_6 _ (List.mem_of_getElem? (i := 190) rfl)) rfl
theorem b_1714 : Cond.selects RX12 yX12_image yX12_image ∈ BIG := bi (tin_6 _ (List.mem_of_getElem? (i := 191) rfl)) rfl
theorem b_1715 : Cond.code yX12_joined cX12_joined 2 (some .int) ∈ BIG := bi (tin_8 _ (List.mem_of_getElem? (i := 224) rfl)) rfl
theorem b_1716 : Cond.instanceMethod yX12_joined ∈ BIG := bi (tin_8 _ (List.mem_of_getElem? (i := 222) rfl)) rfl
theorem b_1717 : Cond.selects RX12 yX12_joined yX12_joined ∈ BIG := bi (tin_8 _ (List.mem_of_getElem? (i := 223) rfl)) rfl
theorem b_1718 : Cond.code yX12_knew cX12_knew 4 (some .int) ∈ BIG := bi (tin_8 _ (List.mem_of_getElem? (i := 204) rfl)) rfl
theorem b_1719 : Cond.instanceMethod yX12_knew ∈ BIG := bi (tin_8 _ (List.mem_of_getElem? (i := 202) rfl)) rfl
theorem b_1720 : Cond.selects RX12 yX12_knew yX12_knew ∈ BIG := bi (tin_8 _ (List.mem_of_getElem? (i := 203) rfl)) rfl
theorem b_1721 : Cond.code yX12_known cX12_known 6 (some .int) ∈ BIG := bi (tin_8 _ (List.mem_of_getElem? (i := 25) rfl)) rfl
theorem b_1722 : Cond.instanceMethod yX12_known ∈ BIG := bi (tin_8 _ (List.mem_of_getElem? (i := 23) rfl)) rfl
theorem b_1723 : Cond.selects RX12 yX12_known yX12_known ∈ BIG := bi (tin_8 _ (List.mem_of_getElem? (i := 24) rfl)) rfl
theorem b_1724 : Cond.code yX12_late cX12_late 5 (some .int) ∈ BIG := bi (tin_8 _ (List.mem_of_getElem? (i := 111) rfl)) rfl
theorem b_1725 : Cond.instanceMethod yX12_late ∈ BIG := bi (tin_8 _ (List.mem_of_getElem? (i := 109) rfl)) rfl
theorem b_1726 : Cond.selects RX12 yX12_late yX12_late ∈ BIG := bi (tin_8 _ (List.mem_of_getElem? (i := 110) rfl)) rfl
theorem b_1727 : Cond.code yX12_leaks cX12_leaks 5 (some .int) ∈ BIG := bi (tin_9 _ (List.mem_of_getElem? (i := 87) rfl)) rfl
theorem b_1728 : Cond.instanceMethod yX12_leaks ∈ BIG := bi (tin_9 _ (List.mem_of_getElem? (i := 85) rfl)) rfl
theorem b_1729 : Cond.selects RX12 yX12_leaks yX12_leaks ∈ BIG := bi (tin_9 _ (List.mem_of_getElem? (i := 86) rfl)) rfl
theorem b_1730 : Cond.code yX12_least cX12_least 2 (some .int) ∈ BIG := bi (tin_8 _ (List.mem_of_getElem? (i := 33) rfl)) rfl
theorem b_1731 : Cond.instanceMethod yX12_least ∈ BIG := bi (tin_8 _ (List.mem_of_getElem? (i := 31) rfl)) rfl
theorem b_1732 : Cond.selects RX12 yX12_least yX12_least ∈ BIG := bi (tin_8 _ (List.mem_of_getElem? (i := 32) rfl)) rfl
theorem b_1733 : Cond.code yX12_left cX12_left 4 (some .int) ∈ BIG := bi (tin_8 _ (List.mem_of_getElem? (i := 9) rfl)) rfl
theorem b_1734 : Cond.instanceMethod yX12_left ∈ BIG := bi (tin_8 _ (List.mem_of_getElem? (i := 7) rfl)) rfl
theorem b_1735 : Cond.selects RX12 yX12_left yX12_left ∈ BIG := bi (tin_8 _ (List.mem_of_getElem? (i := 8) rfl)) rfl
theorem b_1736 : Cond.code yX12_letter cX12_letter 3 (some .int) ∈ BIG := bi (tin_9 _ (List.mem_of_getElem? (i := 5) rfl)) rfl
theorem b_1737 : Cond.instanceMethod yX12_letter ∈ BIG := bi (tin_9 _ (List.mem_of_getElem? (i := 3) rfl)) rfl
theorem b_1738 : Cond.selects RX12 yX12_letter yX12_letter ∈ BIG := bi (tin_9 _ (List.mem_of_getElem? (i := 4) rfl)) rfl
theorem b_1739 : Cond.code yX12_lies cX12_lies 4 (some .int) ∈ BIG := bi (tin_8 _ (List.mem_of_getElem? (i := 13) rfl)) rfl
theorem b_1740 : Cond.instanceMethod yX12_lies ∈ BIG := bi (tin_8 _ (List.mem_of_getElem? (i := 11) rfl)) rfl
theorem b_1741 : Cond.selects RX12 yX12_lies yX12_lies ∈ BIG := bi (tin_8 _ (List.mem_of_getElem? (i := 12) rfl)) rfl
theorem b_1742 : Cond.code yX12_mean cX12_mean 3 (some .int) ∈ BIG := bi (tin_7 _ (List.mem_of_getElem? (i := 145) rfl)) rfl
theorem b_1743 : Cond.instanceMethod yX12_mean ∈ BIG := bi (tin_7 _ (List.mem_of_getElem? (i := 143) rfl)) rfl
theorem b_1744 : Cond.selects RX12 yX12_mean yX12_mean ∈ BIG := bi (tin_7 _ (List.mem_of_getElem? (i := 144) rfl)) rfl
theorem b_1745 : Cond.code yX12_news cX12_news 2 (some .int) ∈ BIG := bi (tin_7 _ (List.mem_of_getElem? (i := 137) rfl)) rfl
theorem b_1746 : Cond.instanceMethod yX12_news ∈ BIG := bi (tin_7 _ (List.mem_of_getElem? (i := 135) rfl)) rfl
theorem b_1747 : Cond.selects RX12 yX12_news yX12_news ∈ BIG := bi (tin_7 _ (List.mem_of_getElem? (i := 136) rfl)) rfl
theorem b_1748 : Cond.code yX12_now cX12_now 4 (some .int) ∈ BIG := bi (tin_8 _ (List.mem_of_getElem? (i := 184) rfl)) rfl
theorem b_1749 : Cond.instanceMethod yX12_now ∈ BIG := bi (tin_8 _ (List.mem_of_getElem? (i := 182) rfl)) rfl
theorem b_1750 : Cond.selects RX12 yX12_now yX12_now ∈ BIG := bi (tin_8 _ (List.mem_of_getElem? (i := 183) rfl)) rfl
theorem b_1751 : Cond.code yX12_once cX12_once 2 (some .int) ∈ BIG := bi (tin_8 _ (List.mem_of_getElem? (i := 107) rfl)) rfl
theorem b_1752 : Cond.instanceMethod yX12_once ∈ BIG := bi (tin_8 _ (List.mem_of_getElem? (i := 105) rfl)) rfl
theorem b_1753 : Cond.selects RX12 yX12_once yX12_once ∈ BIG := bi (tin_8 _ (List.mem_of_getElem? (i := 106) rfl)) rfl
theorem b_1754 : Cond.code yX12_ordered cX12_ordered 5 (some .int) ∈ BIG := bi (tin_8 _ (List.mem_of_getElem? (i := 163) rfl)) rfl
theorem b_1755 : Cond.instanceMethod yX12_ordered ∈ BIG := bi (tin_8 _ (List.mem_of_getElem? (i := 161) rfl)) rfl
theorem b_1756 : Cond.selects RX12 yX12_ordered yX12_ordered ∈ BIG := bi (tin_8 _ (List.mem_of_getElem? (i := 162) rfl)) rfl
theorem b_1757 : Cond.code yX12_paste cX12_paste 7 (some .int) ∈ BIG := bi (tin_9 _ (List.mem_of_getElem? (i := 107) rfl)) rfl
theorem b_1758 : Cond.instanceMethod yX12_paste ∈ BIG := bi (tin_9 _ (List.mem_of_getElem? (i := 105) rfl)) rfl
theorem b_1759 : Cond.selects RX12 yX12_paste yX12_paste ∈ BIG := bi (tin_9 _ (List.mem_of_getElem? (i := 106) rfl)) rfl
theorem b_1760 : Cond.code yX12_plan cX12_plan 3 (some .int) ∈ BIG := bi (tin_7 _ (List.mem_of_getElem? (i := 121) rfl)) rfl
theorem b_1761 : Cond.instanceMethod yX12_plan ∈ BIG := bi (tin_7 _ (List.mem_of_getElem? (i := 119) rfl)) rfl
theorem b_1762 : Cond.selects RX12 yX12_plan yX12_plan ∈ BIG := bi (tin_7 _ (List.mem_of_getElem? (i := 120) rfl)) rfl
theorem b_1763 : Cond.code yX12_read cX12_read 3 (some .int) ∈ BIG := bi (tin_9 _ (List.mem_of_getElem? (i := 37) rfl)) rfl
theorem b_1764 : Cond.instanceMethod yX12_read ∈ BIG := bi (tin_9 _ (List.mem_of_getElem? (i := 35) rfl)) rfl
theorem b_1765 : Cond.selects RX12 yX12_read yX12_read ∈ BIG := bi (tin_9 _ (List.mem_of_getElem? (i := 36) rfl)) rfl
theorem b_1766 : Cond.code yX12_really cX12_really 2 (some .int) ∈ BIG := bi (tin_9 _ (List.mem_of_getElem? (i := 58) rfl)) rfl
theorem b_1767 : Cond.instanceMethod yX12_really ∈ BIG := bi (tin_9 _ (List.mem_of_getElem? (i := 56) rfl)) rfl
theorem b_1768 : Cond.selects RX12 yX12_really yX12_really ∈ BIG := bi (tin_9 _ (List.mem_of_getElem? (i := 57) rfl)) rfl
theorem b_1769 : Cond.code yX12_reckoned cX12_reckoned 10 (some .int) ∈ BIG := bi (tin_8 _ (List.mem_of_getElem? (i := 212) rfl)) rfl
theorem b_1770 : Cond.instanceMethod yX12_reckoned ∈ BIG := bi (tin_8 _ (List.mem_of_getElem? (i := 210) rfl)) rfl
theorem b_1771 : Cond.selects RX12 yX12_reckoned yX12_reckoned ∈ BIG := bi (tin_8 _ (List.mem_of_getElem? (i := 211) rfl)) rfl
theorem b_1772 : Cond.code yX12_rest cX12_rest 7 (some .int) ∈ BIG := bi (tin_8 _ (List.mem_of_getElem? (i := 135) rfl)) rfl
theorem b_1773 : Cond.instanceMethod yX12_rest ∈ BIG := bi (tin_8 _ (List.mem_of_getElem? (i := 133) rfl)) rfl
theorem b_1774 : Cond.selects RX12 yX12_rest yX12_rest ∈ BIG := bi (tin_8 _ (List.mem_of_getElem? (i := 134) rfl)) rfl
theorem b_1775 : Cond.code yX12_risk cX12_risk 2 (some .int) ∈ BIG := bi (tin_8 _ (List.mem_of_getElem? (i := 180) rfl)) rfl
theorem b_1776 : Cond.instanceMethod yX12_risk ∈ BIG := bi (tin_8 _ (List.mem_of_getElem? (i := 178) rfl)) rfl
theorem b_1777 : Cond.selects RX12 yX12_risk yX12_risk ∈ BIG := bi (tin_8 _ (List.mem_of_getElem? (i := 179) rfl)) rfl
theorem b_1778 : Cond.code yX12_row cX12_row 5 (some .int) ∈ BIG := bi (tin_9 _ (List.mem_of_getElem? (i := 96) rfl)) rfl
theorem b_1779 : Cond.instanceMethod yX12_row ∈ BIG := bi (tin_9 _ (List.mem_of_getElem? (i := 94) rfl)) rfl
theorem b_1780 : Cond.selects RX12 yX12_row yX12_row ∈ BIG := bi (tin_9 _ (List.mem_of_getElem? (i := 95) rfl)) rfl
theorem b_1781 : Cond.code yX12_shames cX12_shames 5 (some .int) ∈ BIG := bi (tin_8 _ (List.mem_of_getElem? (i := 17) rfl)) rfl
theorem b_1782 : Cond.instanceMethod yX12_shames ∈ BIG := bi (tin_8 _ (List.mem_of_getElem? (i := 15) rfl)) rfl
theorem b_1783 : Cond.selects RX12 yX12_shames yX12_shames ∈ BIG := bi (tin_8 _ (List.mem_of_getElem? (i := 16) rfl)) rfl
theorem b_1784 : Cond.code yX12_shock cX12_shock 4 (some .int) ∈ BIG := bi (tin_8 _ (List.mem_of_getElem? (i := 119) rfl)) rfl
theorem b_1785 : Cond.instanceMethod yX12_shock ∈ BIG := bi (tin_8 _ (List.mem_of_getElem? (i := 117) rfl)) rfl
theorem b_1786 : Cond.selects RX12 yX12_shock yX12_shock ∈ BIG := bi (tin_8 _ (List.mem_of_getElem? (i := 118) rfl)) rfl
theorem b_1787 : Cond.code yX12_softer cX12_softer 4 (some .int) ∈ BIG := bi (tin_8 _ (List.mem_of_getElem? (i := 139) rfl)) rfl
theorem b_1788 : Cond.instanceMethod yX12_softer ∈ BIG := bi (tin_8 _ (List.mem_of_getElem? (i := 137) rfl)) rfl
theorem b_1789 : Cond.selects RX12 yX12_softer yX12_softer ∈ BIG := bi (tin_8 _ (List.mem_of_getElem? (i := 138) rfl)) rfl
theorem b_1790 : Cond.code yX12_softest cX12_softest 5 (some .int) ∈ BIG := bi (tin_7 _ (List.mem_of_getElem? (i := 207) rfl)) rfl
theorem b_1791 : Cond.instanceMethod yX12_softest ∈ BIG := bi (tin_7 _ (List.mem_of_getElem? (i := 205) rfl)) rfl
theorem b_1792 : Cond.selects RX12 yX12_softest yX12_softest ∈ BIG := bi (tin_7 _ (List.mem_of_getElem? (i := 206) rfl)) rfl
theorem b_1793 : Cond.code yX12_soon cX12_soon 5 (some .int) ∈ BIG := bi (tin_8 _ (List.mem_of_getElem? (i := 188) rfl)) rfl
theorem b_1794 : Cond.instanceMethod yX12_soon ∈ BIG := bi (tin_8 _ (List.mem_of_getElem? (i := 186) rfl)) rfl
theorem b_1795 : Cond.selects RX12 yX12_soon yX12_soon ∈ BIG := bi (tin_8 _ (List.mem_of_getElem? (i := 187) rfl)) rfl
theorem b_1796 : Cond.code yX12_step cX12_step 3 (some .int) ∈ BIG := bi (tin_8 _ (List.mem_of_getElem? (i := 59) rfl)) rfl
theorem b_1797 : Cond.instanceMethod yX12_step ∈ BIG := bi (tin_8 _ (List.mem_of_getElem? (i := 57) rfl)) rfl
theorem b_1798 : Cond.selects RX12 yX12_step yX12_step ∈ BIG := bi (tin_8 _ (List.mem_of_getElem? (i := 58) rfl)) rfl
theorem b_1799 : Cond.code yX12_steps cX12_steps 5 (some .int) ∈ BIG := bi (tin_8 _ (List.mem_of_getElem? (i := 175) rfl)) rfl
theorem b_1800 : Cond.instanceMethod yX12_steps ∈ BIG := bi (tin_8 _ (List.mem_of_getElem? (i := 173) rfl)) rfl
theorem b_1801 : Cond.selects RX12 yX12_steps yX12_steps ∈ BIG := bi (tin_8 _ (List.mem_of_getElem? (i := 174) rfl)) rfl
theorem b_1802 : Cond.code yX12_suspects cX12_suspects 3 (some .int) ∈ BIG := bi (tin_8 _ (List.mem_of_getElem? (i := 196) rfl)) rfl
theorem b_1803 : Cond.instanceMethod yX12_suspects ∈ BIG := bi (tin_8 _ (List.mem_of_getElem? (i := 194) rfl)) rfl
theorem b_1804 : Cond.selects RX12 yX12_suspects yX12_suspects ∈ BIG := bi (tin_8 _ (List.mem_of_getElem? (i := 195) rfl)) rfl
theorem b_1805 : Cond.code yX12_tells cX12_tells 2 (some .int) ∈ BIG := bi (tin_7 _ (List.mem_of_getElem? (i := 141) rfl)) rfl
theorem b_1806 : Cond.instanceMethod yX12_tells ∈ BIG := bi (tin_7 _ (List.mem_of_getElem? (i := 139) rfl)) rfl
theorem b_1807 : Cond.selects RX12 yX12_tells yX12_tells ∈ BIG := bi (tin_7 _ (List.mem_of_getElem? (i := 140) rfl)) rfl
theorem b_1808 : Cond.code yX12_tender cX12_tender 2 (some .int) ∈ BIG := bi (tin_8 _ (List.mem_of_getElem? (i := 91) rfl)) rfl
theorem b_1809 : Cond.instanceMethod yX12_tender ∈ BIG := bi (tin_8 _ (List.mem_of_getElem? (i := 89) rfl)) rfl
theorem b_1810 : Cond.selects RX12 yX12_tender yX12_tender ∈ BIG := bi (tin_8 _ (List.mem_of_getElem? (i := 90) rfl)) rfl
theorem b_1811 : Cond.code yX12_tenderly cX12_tenderly 3 (some .int) ∈ BIG := bi (tin_8 _ (List.mem_of_getElem? (i := 95) rfl)) rfl
theorem b_1812 : Cond.instanceMethod yX12_tenderly ∈ BIG := bi (tin_8 _ (List.mem_of_getElem? (i := 93) rfl)) rfl
theorem b_1813 : Cond.selects RX12 yX12_tenderly yX12_tenderly ∈ BIG := bi (tin_8 _ (List.mem_of_getElem? (i := 94) rfl)) rfl
theorem b_1814 : Cond.code yX12_thinks cX12_thinks 3 (some .int) ∈ BIG := bi (tin_7 _ (List.mem_of_getElem? (i := 86) rfl)) rfl
theorem b_1815 : Cond.instanceMethod yX12_thinks ∈ BIG := bi (tin_7 _ (List.mem_of_getElem? (i := 84) rfl)) rfl
theorem b_1816 : Cond.selects RX12 yX12_thinks yX12_thinks ∈ BIG := bi (tin_7 _ (List.mem_of_getElem? (i := 85) rfl)) rfl
theorem b_1817 : Cond.code yX12_truly cX12_truly 2 (some .int) ∈ BIG := bi (tin_8 _ (List.mem_of_getElem? (i := 75) rfl)) rfl
theorem b_1818 : Cond.instanceMethod yX12_truly ∈ BIG := bi (tin_8 _ (List.mem_of_getElem? (i := 73) rfl)) rfl
theorem b_1819 : Cond.selects RX12 yX12_truly yX12_truly ∈ BIG := bi (tin_8 _ (List.mem_of_getElem? (i := 74) rfl)) rfl
theorem b_1820 : Cond.code yX12_undo cX12_undo 1 (some .int) ∈ BIG := bi (tin_9 _ (List.mem_of_getElem? (i := 67) rfl)) rfl
theorem b_1821 : Cond.instanceMethod yX12_undo ∈ BIG := bi (tin_9 _ (List.mem_of_getElem? (i := 65) rfl)) rfl
theorem b_1822 : Cond.selects RX12 yX12_undo yX12_undo ∈ BIG := bi (tin_9 _ (List.mem_of_getElem? (i := 66) rfl)) rfl
theorem b_1823 : Cond.code yX12_unsaid cX12_unsaid 5 (some .int) ∈ BIG := bi (tin_8 _ (List.mem_of_getElem? (i := 123) rfl)) rfl
theorem b_1824 : Cond.instanceMethod yX12_unsaid ∈ BIG := bi (tin_8 _ (List.mem_of_getElem? (i := 121) rfl)) rfl
theorem b_1825 : Cond.selects RX12 yX12_unsaid yX12_unsaid ∈ BIG := bi (tin_8 _ (List.mem_of_getElem? (i := 122) rfl)) rfl
theorem b_1826 : Cond.code yX12_whom cX12_whom 1 (some .int) ∈ BIG := bi (tin_9 _ (List.mem_of_getElem? (i := 25) rfl)) rfl
theorem b_1827 : Cond.instanceMethod yX12_whom ∈ BIG := bi (tin_9 _ (List.mem_of_getElem? (i := 23) rfl)) rfl
theorem b_1828 : Cond.selects RX12 yX12_whom yX12_whom ∈ BIG := bi (tin_9 _ (List.mem_of_getElem? (i := 24) rfl)) rfl
theorem b_1829 : Cond.code yX12_word cX12_word 3 (some .int) ∈ BIG := bi (tin_7 _ (List.mem_of_getElem? (i := 102) rfl)) rfl
theorem b_1830 : Cond.instanceMethod yX12_word ∈ BIG := bi (tin_7 _ (List.mem_of_getElem? (i := 100) rfl)) rfl
theorem b_1831 : Cond.selects RX12 yX12_word yX12_word ∈ BIG := bi (tin_7 _ (List.mem_of_getElem? (i := 101) rfl)) rfl
theorem b_1832 : Cond.code yX12_worsen cX12_worsen 3 (some .int) ∈ BIG := bi (tin_9 _ (List.mem_of_getElem? (i := 49) rfl)) rfl
theorem b_1833 : Cond.instanceMethod yX12_worsen ∈ BIG := bi (tin_9 _ (List.mem_of_getElem? (i := 47) rfl)) rfl
theorem b_1834 : Cond.selects RX12 yX12_worsen yX12_worsen ∈ BIG := bi (tin_9 _ (List.mem_of_getElem? (i := 48) rfl)) rfl
theorem b_1835 : Cond.code yX12_worst cX12_worst 4 (some .int) ∈ BIG := bi (tin_8 _ (List.mem_of_getElem? (i := 5) rfl)) rfl
theorem b_1836 : Cond.instanceMethod yX12_worst ∈ BIG := bi (tin_8 _ (List.mem_of_getElem? (i := 3) rfl)) rfl
theorem b_1837 : Cond.selects RX12 yX12_worst yX12_worst ∈ BIG := bi (tin_8 _ (List.mem_of_getElem? (i := 4) rfl)) rfl
theorem b_1838 : Cond.code yX12_write cX12_write 5 (some .int) ∈ BIG := bi (tin_9 _ (List.mem_of_getElem? (i := 100) rfl)) rfl
theorem b_1839 : Cond.instanceMethod yX12_write ∈ BIG := bi (tin_9 _ (List.mem_of_getElem? (i := 98) rfl)) rfl
theorem b_1840 : Cond.selects RX12 yX12_write yX12_write ∈ BIG := bi (tin_9 _ (List.mem_of_getElem? (i := 99) rfl)) rfl
theorem m_yX11_all : MV yX11_all cX11_all 1 (some .int) 0 := ⟨b_1415, b_1416, b_1417, b_332, by decide +kernel⟩
theorem m_yX11_back : MV yX11_back cX11_back 3 (some .int) 1 := ⟨b_1418, b_1419, b_1420, b_332, by decide +kernel⟩
theorem m_yX11_behind : MV yX11_behind cX11_behind 3 (some .int) 2 := ⟨b_1421, b_1422, b_1423, b_332, by decide +kernel⟩
theorem m_yX11_believes : MV yX11_believes cX11_believes 3 (some .int) 1 := ⟨b_1424, b_1425, b_1426, b_332, by decide +kernel⟩
theorem m_yX11_calm : MV yX11_calm cX11_calm 5 (some .int) 2 := ⟨b_1427, b_1428, b_1429, b_332, by decide +kernel⟩
theorem m_yX11_chance : MV yX11_chance cX11_chance 5 (some .int) 4 := ⟨b_1430, b_1431, b_1432, b_332, by decide +kernel⟩
theorem m_yX11_count : MV yX11_count cX11_count 2 (some .int) 1 := ⟨b_1433, b_1434, b_1435, b_332, by decide +kernel⟩
theorem m_yX11_desk : MV yX11_desk cX11_desk 1 (some .int) 0 := ⟨b_1436, b_1437, b_1438, b_332, by decide +kernel⟩
theorem m_yX11_doubt : MV yX11_doubt cX11_doubt 4 (some .int) 3 := ⟨b_1439, b_1440, b_1441, b_332, by decide +kernel⟩
theorem m_yX11_drawn : MV yX11_drawn cX11_drawn 7 (some .int) 4 := ⟨b_1442, b_1443, b_1444, b_332, by decide +kernel⟩
theorem m_yX11_end : MV yX11_end cX11_end 2 (some .int) 1 := ⟨b_1445, b_1446, b_1447, b_332, by decide +kernel⟩
theorem m_yX11_ends : MV yX11_ends cX11_ends 2 (some .int) 1 := ⟨b_1448, b_1449, b_1450, b_332, by decide +kernel⟩
theorem m_yX11_enough : MV yX11_enough cX11_enough 4 (some .int) 1 := ⟨b_1451, b_1452, b_1453, b_332, by decide +kernel⟩
theorem m_yX11_even : MV yX11_even cX11_even 3 (some .int) 2 := ⟨b_1454, b_1455, b_1456, b_332, by decide +kernel⟩
theorem m_yX11_fault : MV yX11_fault cX11_fault 2 (some .int) 1 := ⟨b_1457, b_1458, b_1459, b_332, by decide +kernel⟩
theorem m_yX11_feed : MV yX11_feed cX11_feed 7 (some .int) 5 := ⟨b_1460, b_1461, b_1462, b_332, by decide +kernel⟩
theorem m_yX11_fewest : MV yX11_fewest cX11_fewest 2 (some .int) 0 := ⟨b_1463, b_1464, b_1465, b_332, by decide +kernel⟩
theorem m_yX11_first : MV yX11_first cX11_first 1 (some .int) 0 := ⟨b_1466, b_1467, b_1468, b_332, by decide +kernel⟩
theorem m_yX11_gentlest : MV yX11_gentlest cX11_gentlest 2 (some .int) 1 := ⟨b_1469, b_1470, b_1471, b_332, by decide +kernel⟩
theorem m_yX11_gently : MV yX11_gently cX11_gently 3 (some .int) 2 := ⟨b_1472, b_1473, b_1474, b_332, by decide +kernel⟩
theorem m_yX11_grade : MV yX11_grade cX11_grade 2 (some .int) 1 := ⟨b_1475, b_1476, b_1477, b_332, by decide +kernel⟩
theorem m_yX11_guess : MV yX11_guess cX11_guess 5 (some .int) 2 := ⟨b_1478, b_1479, b_1480, b_332, by decide +kernel⟩
theorem m_yX11_heard : MV yX11_heard cX11_heard 3 (some .int) 2 := ⟨b_1481, b_1482, b_1483, b_332, by decide +kernel⟩
theorem m_yX11_honest : MV yX11_honest cX11_honest 3 (some .int) 2 := ⟨b_1484, b_1485, b_1486, b_332, by decide +kernel⟩
theorem m_yX11_hope : MV yX11_hope cX11_hope 6 (some .int) 4 := ⟨b_1487, b_1488, b_1489, b_332, by decide +kernel⟩
theorem m_yX11_hurt : MV yX11_hurt cX11_hurt 4 (some .int) 3 := ⟨b_1490, b_1491, b_1492, b_332, by decide +kernel⟩
theorem m_yX11_hurts : MV yX11_hurts cX11_hurts 4 (some .int) 2 := ⟨b_1493, b_1494, b_1495, b_332, by decide +kernel⟩
theorem m_yX11_idle : MV yX11_idle cX11_idle 3 (some .int) 0 := ⟨b_1496, b_1497, b_1498, b_332, by decide +kernel⟩
theorem m_yX11_image : MV yX11_image cX11_image 3 (some .int) 1 := ⟨b_1499, b_1500, b_1501, b_332, by decide +kernel⟩
theorem m_yX11_joined : MV yX11_joined cX11_joined 2 (some .int) 1 := ⟨b_1502, b_1503, b_1504, b_332, by decide +kernel⟩
theorem m_yX11_knew : MV yX11_knew cX11_knew 4 (some .int) 2 := ⟨b_1505, b_1506, b_1507, b_332, by decide +kernel⟩
theorem m_yX11_known : MV yX11_known cX11_known 3 (some .int) 1 := ⟨b_1508, b_1509, b_1510, b_332, by decide +kernel⟩
theorem m_yX11_late : MV yX11_late cX11_late 5 (some .int) 2 := ⟨b_1511, b_1512, b_1513, b_332, by decide +kernel⟩
theorem m_yX11_leaks : MV yX11_leaks cX11_leaks 5 (some .int) 2 := ⟨b_1514, b_1515, b_1516, b_332, by decide +kernel⟩
theorem m_yX11_least : MV yX11_least cX11_least 2 (some .int) 1 := ⟨b_1517, b_1518, b_1519, b_332, by decide +kernel⟩
theorem m_yX11_left : MV yX11_left cX11_left 4 (some .int) 2 := ⟨b_1520, b_1521, b_1522, b_332, by decide +kernel⟩
theorem m_yX11_letter : MV yX11_letter cX11_letter 3 (some .int) 2 := ⟨b_1523, b_1524, b_1525, b_332, by decide +kernel⟩
theorem m_yX11_lies : MV yX11_lies cX11_lies 3 (some .int) 1 := ⟨b_1526, b_1527, b_1528, b_332, by decide +kernel⟩
theorem m_yX11_mean : MV yX11_mean cX11_mean 3 (some .int) 2 := ⟨b_1529, b_1530, b_1531, b_332, by decide +kernel⟩
theorem m_yX11_news : MV yX11_news cX11_news 2 (some .int) 1 := ⟨b_1532, b_1533, b_1534, b_332, by decide +kernel⟩
theorem m_yX11_now : MV yX11_now cX11_now 4 (some .int) 3 := ⟨b_1535, b_1536, b_1537, b_332, by decide +kernel⟩
theorem m_yX11_once : MV yX11_once cX11_once 2 (some .int) 1 := ⟨b_1538, b_1539, b_1540, b_332, by decide +kernel⟩
theorem m_yX11_ordered : MV yX11_ordered cX11_ordered 5 (some .int) 3 := ⟨b_1541, b_1542, b_1543, b_332, by decide +kernel⟩
theorem m_yX11_paste : MV yX11_paste cX11_paste 8 (some .int) 5 := ⟨b_1544, b_1545, b_1546, b_332, by decide +kernel⟩
theorem m_yX11_plan : MV yX11_plan cX11_plan 3 (some .int) 2 := ⟨b_1547, b_1548, b_1549, b_332, by decide +kernel⟩
theorem m_yX11_read : MV yX11_read cX11_read 3 (some .int) 1 := ⟨b_1550, b_1551, b_1552, b_332, by decide +kernel⟩
theorem m_yX11_really : MV yX11_really cX11_really 2 (some .int) 1 := ⟨b_1553, b_1554, b_1555, b_332, by decide +kernel⟩
theorem m_yX11_reckoned : MV yX11_reckoned cX11_reckoned 4 (some .int) 2 := ⟨b_1556, b_1557, b_1558, b_332, by decide +kernel⟩
theorem m_yX11_rest : MV yX11_rest cX11_rest 5 (some .int) 1 := ⟨b_1559, b_1560, b_1561, b_332, by decide +kernel⟩
theorem m_yX11_risk : MV yX11_risk cX11_risk 2 (some .int) 1 := ⟨b_1562, b_1563, b_1564, b_332, by decide +kernel⟩
theorem m_yX11_row : MV yX11_row cX11_row 5 (some .int) 3 := ⟨b_1565, b_1566, b_1567, b_332, by decide +kernel⟩
theorem m_yX11_shames : MV yX11_shames cX11_shames 3 (some .int) 1 := ⟨b_1568, b_1569, b_1570, b_332, by decide +kernel⟩
theorem m_yX11_shock : MV yX11_shock cX11_shock 6 (some .int) 1 := ⟨b_1571, b_1572, b_1573, b_332, by decide +kernel⟩
theorem m_yX11_softer : MV yX11_softer cX11_softer 4 (some .int) 2 := ⟨b_1574, b_1575, b_1576, b_332, by decide +kernel⟩
theorem m_yX11_softest : MV yX11_softest cX11_softest 7 (some .int) 2 := ⟨b_1577, b_1578, b_1579, b_332, by decide +kernel⟩
theorem m_yX11_soon : MV yX11_soon cX11_soon 8 (some .int) 2 := ⟨b_1580, b_1581, b_1582, b_332, by decide +kernel⟩
theorem m_yX11_step : MV yX11_step cX11_step 3 (some .int) 2 := ⟨b_1583, b_1584, b_1585, b_332, by decide +kernel⟩
theorem m_yX11_steps : MV yX11_steps cX11_steps 7 (some .int) 2 := ⟨b_1586, b_1587, b_1588, b_332, by decide +kernel⟩
theorem m_yX11_suspects : MV yX11_suspects cX11_suspects 3 (some .int) 1 := ⟨b_1589, b_1590, b_1591, b_332, by decide +kernel⟩
theorem m_yX11_tells : MV yX11_tells cX11_tells 2 (some .int) 1 := ⟨b_1592, b_1593, b_1594, b_332, by decide +kernel⟩
theorem m_yX11_tender : MV yX11_tender cX11_tender 2 (some .int) 1 := ⟨b_1595, b_1596, b_1597, b_332, by decide +kernel⟩
theorem m_yX11_tenderly : MV yX11_tenderly cX11_tenderly 3 (some .int) 2 := ⟨b_1598, b_1599, b_1600, b_332, by decide +kernel⟩
theorem m_yX11_thinks : MV yX11_thinks cX11_thinks 3 (some .int) 2 := ⟨b_1601, b_1602, b_1603, b_332, by decide +kernel⟩
theorem m_yX11_truly : MV yX11_truly cX11_truly 2 (some .int) 1 := ⟨b_1604, b_1605, b_1606, b_332, by decide +kernel⟩
theorem m_yX11_undo : MV yX11_undo cX11_undo 2 (some .int) 0 := ⟨b_1607, b_1608, b_1609, b_332, by decide +kernel⟩
theorem m_yX11_unsaid : MV yX11_unsaid cX11_unsaid 3 (some .int) 0 := ⟨b_1610, b_1611, b_1612, b_332, by decide +kernel⟩
theorem m_yX11_whom : MV yX11_whom cX11_whom 1 (some .int) 0 := ⟨b_1613, b_1614, b_1615, b_332, by decide +kernel⟩
theorem m_yX11_word : MV yX11_word cX11_word 3 (some .int) 2 := ⟨b_1616, b_1617, b_1618, b_332, by decide +kernel⟩
theorem m_yX11_worsen : MV yX11_worsen cX11_worsen 3 (some .int) 2 := ⟨b_1619, b_1620, b_1621, b_332, by decide +kernel⟩
theorem m_yX11_worst : MV yX11_worst cX11_worst 4 (some .int) 2 := ⟨b_1622, b_1623, b_1624, b_332, by decide +kernel⟩
theorem m_yX11_write : MV yX11_write cX11_write 6 (some .int) 3 := ⟨b_1625, b_1626, b_1627, b_332, by decide +kernel⟩
theorem m_yX12_all : MV yX12_all cX12_all 1 (some .int) 0 := ⟨b_1628, b_1629, b_1630, b_810, by decide +kernel⟩
theorem m_yX12_back : MV yX12_back cX12_back 3 (some .int) 1 := ⟨b_1631, b_1632, b_1633, b_810, by decide +kernel⟩
theorem m_yX12_behind : MV yX12_behind cX12_behind 3 (some .int) 2 := ⟨b_1634, b_1635, b_1636, b_810, by decide +kernel⟩
theorem m_yX12_believes : MV yX12_believes cX12_believes 5 (some .int) 1 := ⟨b_1637, b_1638, b_1639, b_810, by decide +kernel⟩
theorem m_yX12_calm : MV yX12_calm cX12_calm 5 (some .int) 2 := ⟨b_1640, b_1641, b_1642, b_810, by decide +kernel⟩
theorem m_yX12_chance : MV yX12_chance cX12_chance 5 (some .int) 4 := ⟨b_1643, b_1644, b_1645, b_810, by decide +kernel⟩
theorem m_yX12_count : MV yX12_count cX12_count 4 (some .int) 1 := ⟨b_1646, b_1647, b_1648, b_810, by decide +kernel⟩
theorem m_yX12_desk : MV yX12_desk cX12_desk 2 (some .int) 0 := ⟨b_1649, b_1650, b_1651, b_810, by decide +kernel⟩
theorem m_yX12_doubt : MV yX12_doubt cX12_doubt 4 (some .int) 3 := ⟨b_1652, b_1653, b_1654, b_810, by decide +kernel⟩
theorem m_yX12_drawn : MV yX12_drawn cX12_drawn 11 (some .int) 4 := ⟨b_1655, b_1656, b_1657, b_810, by decide +kernel⟩
theorem m_yX12_end : MV yX12_end cX12_end 2 (some .int) 1 := ⟨b_1658, b_1659, b_1660, b_810, by decide +kernel⟩
theorem m_yX12_ends : MV yX12_ends cX12_ends 2 (some .int) 1 := ⟨b_1661, b_1662, b_1663, b_810, by decide +kernel⟩
theorem m_yX12_enough : MV yX12_enough cX12_enough 4 (some .int) 1 := ⟨b_1664, b_1665, b_1666, b_810, by decide +kernel⟩
theorem m_yX12_even : MV yX12_even cX12_even 3 (some .int) 2 := ⟨b_1667, b_1668, b_1669, b_810, by decide +kernel⟩
theorem m_yX12_fault : MV yX12_fault cX12_fault 2 (some .int) 1 := ⟨b_1670, b_1671, b_1672, b_810, by decide +kernel⟩
theorem m_yX12_feed : MV yX12_feed cX12_feed 7 (some .int) 5 := ⟨b_1673, b_1674, b_1675, b_810, by decide +kernel⟩
theorem m_yX12_fewest : MV yX12_fewest cX12_fewest 1 (some .int) 0 := ⟨b_1676, b_1677, b_1678, b_810, by decide +kernel⟩
theorem m_yX12_first : MV yX12_first cX12_first 1 (some .int) 0 := ⟨b_1679, b_1680, b_1681, b_810, by decide +kernel⟩
theorem m_yX12_gentlest : MV yX12_gentlest cX12_gentlest 2 (some .int) 1 := ⟨b_1682, b_1683, b_1684, b_810, by decide +kernel⟩
theorem m_yX12_gently : MV yX12_gently cX12_gently 3 (some .int) 2 := ⟨b_1685, b_1686, b_1687, b_810, by decide +kernel⟩
theorem m_yX12_grade : MV yX12_grade cX12_grade 2 (some .int) 1 := ⟨b_1688, b_1689, b_1690, b_810, by decide +kernel⟩
theorem m_yX12_guess : MV yX12_guess cX12_guess 4 (some .int) 2 := ⟨b_1691, b_1692, b_1693, b_810, by decide +kernel⟩
theorem m_yX12_heard : MV yX12_heard cX12_heard 3 (some .int) 2 := ⟨b_1694, b_1695, b_1696, b_810, by decide +kernel⟩
theorem m_yX12_honest : MV yX12_honest cX12_honest 3 (some .int) 2 := ⟨b_1697, b_1698, b_1699, b_810, by decide +kernel⟩
theorem m_yX12_hope : MV yX12_hope cX12_hope 8 (some .int) 4 := ⟨b_1700, b_1701, b_1702, b_810, by decide +kernel⟩
theorem m_yX12_hurt : MV yX12_hurt cX12_hurt 4 (some .int) 3 := ⟨b_1703, b_1704, b_1705, b_810, by decide +kernel⟩
theorem m_yX12_hurts : MV yX12_hurts cX12_hurts 4 (some .int) 2 := ⟨b_1706, b_1707, b_1708, b_810, by decide +kernel⟩
theorem m_yX12_idle : MV yX12_idle cX12_idle 5 (some .int) 0 := ⟨b_1709, b_1710, b_1711, b_810, by decide +kernel⟩
theorem m_yX12_image : MV yX12_image cX12_image 3 (some .int) 1 := ⟨b_1712, b_1713, b_1714, b_810, by decide +kernel⟩
theorem m_yX12_joined : MV yX12_joined cX12_joined 2 (some .int) 1 := ⟨b_1715, b_1716, b_1717, b_810, by decide +kernel⟩
theorem m_yX12_knew : MV yX12_knew cX12_knew 4 (some .int) 2 := ⟨b_1718, b_1719, b_1720, b_810, by decide +kernel⟩
theorem m_yX12_known : MV yX12_known cX12_known 6 (some .int) 1 := ⟨b_1721, b_1722, b_1723, b_810, by decide +kernel⟩
theorem m_yX12_late : MV yX12_late cX12_late 5 (some .int) 2 := ⟨b_1724, b_1725, b_1726, b_810, by decide +kernel⟩
theorem m_yX12_leaks : MV yX12_leaks cX12_leaks 5 (some .int) 2 := ⟨b_1727, b_1728, b_1729, b_810, by decide +kernel⟩
theorem m_yX12_least : MV yX12_least cX12_least 2 (some .int) 1 := ⟨b_1730, b_1731, b_1732, b_810, by decide +kernel⟩
theorem m_yX12_left : MV yX12_left cX12_left 4 (some .int) 2 := ⟨b_1733, b_1734, b_1735, b_810, by decide +kernel⟩
theorem m_yX12_letter : MV yX12_letter cX12_letter 3 (some .int) 2 := ⟨b_1736, b_1737, b_1738, b_810, by decide +kernel⟩
theorem m_yX12_lies : MV yX12_lies cX12_lies 4 (some .int) 1 := ⟨b_1739, b_1740, b_1741, b_810, by decide +kernel⟩
theorem m_yX12_mean : MV yX12_mean cX12_mean 3 (some .int) 2 := ⟨b_1742, b_1743, b_1744, b_810, by decide +kernel⟩
theorem m_yX12_news : MV yX12_news cX12_news 2 (some .int) 1 := ⟨b_1745, b_1746, b_1747, b_810, by decide +kernel⟩
theorem m_yX12_now : MV yX12_now cX12_now 4 (some .int) 3 := ⟨b_1748, b_1749, b_1750, b_810, by decide +kernel⟩
theorem m_yX12_once : MV yX12_once cX12_once 2 (some .int) 1 := ⟨b_1751, b_1752, b_1753, b_810, by decide +kernel⟩
theorem m_yX12_ordered : MV yX12_ordered cX12_ordered 5 (some .int) 3 := ⟨b_1754, b_1755, b_1756, b_810, by decide +kernel⟩
theorem m_yX12_paste : MV yX12_paste cX12_paste 7 (some .int) 5 := ⟨b_1757, b_1758, b_1759, b_810, by decide +kernel⟩
theorem m_yX12_plan : MV yX12_plan cX12_plan 3 (some .int) 2 := ⟨b_1760, b_1761, b_1762, b_810, by decide +kernel⟩
theorem m_yX12_read : MV yX12_read cX12_read 3 (some .int) 1 := ⟨b_1763, b_1764, b_1765, b_810, by decide +kernel⟩
theorem m_yX12_really : MV yX12_really cX12_really 2 (some .int) 1 := ⟨b_1766, b_1767, b_1768, b_810, by decide +kernel⟩
theorem m_yX12_reckoned : MV yX12_reckoned cX12_reckoned 10 (some .int) 2 := ⟨b_1769, b_1770, b_1771, b_810, by decide +kernel⟩
theorem m_yX12_rest : MV yX12_rest cX12_rest 7 (some .int) 1 := ⟨b_1772, b_1773, b_1774, b_810, by decide +kernel⟩
theorem m_yX12_risk : MV yX12_risk cX12_risk 2 (some .int) 1 := ⟨b_1775, b_1776, b_1777, b_810, by decide +kernel⟩
theorem m_yX12_row : MV yX12_row cX12_row 5 (some .int) 3 := ⟨b_1778, b_1779, b_1780, b_810, by decide +kernel⟩
theorem m_yX12_shames : MV yX12_shames cX12_shames 5 (some .int) 1 := ⟨b_1781, b_1782, b_1783, b_810, by decide +kernel⟩
theorem m_yX12_shock : MV yX12_shock cX12_shock 4 (some .int) 1 := ⟨b_1784, b_1785, b_1786, b_810, by decide +kernel⟩
theorem m_yX12_softer : MV yX12_softer cX12_softer 4 (some .int) 2 := ⟨b_1787, b_1788, b_1789, b_810, by decide +kernel⟩
theorem m_yX12_softest : MV yX12_softest cX12_softest 5 (some .int) 2 := ⟨b_1790, b_1791, b_1792, b_810, by decide +kernel⟩
theorem m_yX12_soon : MV yX12_soon cX12_soon 5 (some .int) 2 := ⟨b_1793, b_1794, b_1795, b_810, by decide +kernel⟩
theorem m_yX12_step : MV yX12_step cX12_step 3 (some .int) 2 := ⟨b_1796, b_1797, b_1798, b_810, by decide +kernel⟩
theorem m_yX12_steps : MV yX12_steps cX12_steps 5 (some .int) 2 := ⟨b_1799, b_1800, b_1801, b_810, by decide +kernel⟩
theorem m_yX12_suspects : MV yX12_suspects cX12_suspects 3 (some .int) 1 := ⟨b_1802, b_1803, b_1804, b_810, by decide +kernel⟩
theorem m_yX12_tells : MV yX12_tells cX12_tells 2 (some .int) 1 := ⟨b_1805, b_1806, b_1807, b_810, by decide +kernel⟩
theorem m_yX12_tender : MV yX12_tender cX12_tender 2 (some .int) 1 := ⟨b_1808, b_1809, b_1810, b_810, by decide +kernel⟩
theorem m_yX12_tenderly : MV yX12_tenderly cX12_tenderly 3 (some .int) 2 := ⟨b_1811, b_1812, b_1813, b_810, by decide +kernel⟩
theorem m_yX12_thinks : MV yX12_thinks cX12_thinks 3 (some .int) 2 := ⟨b_1814, b_1815, b_1816, b_810, by decide +kernel⟩
theorem m_yX12_truly : MV yX12_truly cX12_truly 2 (some .int) 1 := ⟨b_1817, b_1818, b_1819, b_810, by decide +kernel⟩
theorem m_yX12_undo : MV yX12_undo cX12_undo 1 (some .int) 0 := ⟨b_1820, b_1821, b_1822, b_810, by decide +kernel⟩
theorem m_yX12_unsaid : MV yX12_unsaid cX12_unsaid 5 (some .int) 0 := ⟨b_1823, b_1824, b_1825, b_810, by decide +kernel⟩
theorem m_yX12_whom : MV yX12_whom cX12_whom 1 (some .int) 0 := ⟨b_1826, b_1827, b_1828, b_810, by decide +kernel⟩
theorem m_yX12_word : MV yX12_word cX12_word 3 (some .int) 2 := ⟨b_1829, b_1830, b_1831, b_810, by decide +kernel⟩
theorem m_yX12_worsen : MV yX12_worsen cX12_worsen 3 (some .int) 2 := ⟨b_1832, b_1833, b_1834, b_810, by decide +kernel⟩
theorem m_yX12_worst : MV yX12_worst cX12_worst 4 (some .int) 2 := ⟨b_1835, b_1836, b_1837, b_810, by decide +kernel⟩
theorem m_yX12_write : MV yX12_write cX12_write 5 (some .int) 3 := ⟨b_1838, b_1839, b_1840, b_810, by decide +kernel⟩
theorem dL_law_332 : decode cL_law 332 = .ok (.aload_n 1, 1) := by decide +kernel
theorem dL_law_333 : decode cL_law 333 = .ok (.aload_n 0, 1) := by decide +kernel
theorem dL_law_334 : decode cL_law 334 = .ok (.iload_n 3, 1) := by decide +kernel
theorem dL_law_335 : decode cL_law 335 = .ok (.iconst 1, 1) := by decide +kernel
theorem dL_law_336 : decode cL_law 336 = .ok (.iadd, 1) := by decide +kernel
theorem dL_law_337 : decode cL_law 337 = .ok (.iaload, 1) := by decide +kernel
theorem dL_law_338 : decode cL_law 338 = .ok (.aload_n 0, 1) := by decide +kernel
theorem dL_law_339 : decode cL_law 339 = .ok (.iload_n 3, 1) := by decide +kernel
theorem dL_law_340 : decode cL_law 340 = .ok (.iconst 2, 1) := by decide +kernel
theorem dL_law_341 : decode cL_law 341 = .ok (.iadd, 1) := by decide +kernel
theorem dL_law_342 : decode cL_law 342 = .ok (.iaload, 1) := by decide +kernel
theorem dL_law_343 : decode cL_law 343 = .ok (.aload_n 0, 1) := by decide +kernel
theorem dL_law_344 : decode cL_law 344 = .ok (.iload_n 3, 1) := by decide +kernel
theorem dL_law_345 : decode cL_law 345 = .ok (.iconst 3, 1) := by decide +kernel
theorem dL_law_346 : decode cL_law 346 = .ok (.iadd, 1) := by decide +kernel
theorem dL_law_347 : decode cL_law 347 = .ok (.iaload, 1) := by decide +kernel
theorem dL_law_348 : decode cL_law 348 = .ok (.aload_n 0, 1) := by decide +kernel
theorem dL_law_349 : decode cL_law 349 = .ok (.iload_n 3, 1) := by decide +kernel
theorem dL_law_350 : decode cL_law 350 = .ok (.iconst 4, 1) := by decide +kernel
theorem dL_law_351 : decode cL_law 351 = .ok (.iadd, 1) := by decide +kernel
theorem dL_law_352 : decode cL_law 352 = .ok (.iaload, 1) := by decide +kernel
theorem dL_law_353 : decode cL_law 353 = .ok (.aload_n 0, 1) := by decide +kernel
theorem dL_law_354 : decode cL_law 354 = .ok (.iload_n 3, 1) := by decide +kernel
theorem dL_law_355 : decode cL_law 355 = .ok (.iconst 5, 1) := by decide +kernel
theorem dL_law_356 : decode cL_law 356 = .ok (.iadd, 1) := by decide +kernel
theorem dL_law_357 : decode cL_law 357 = .ok (.iaload, 1) := by decide +kernel
theorem dL_law_358 : decode cL_law 358 = .ok (.invokevirtual 13, 3) := by decide +kernel
theorem dL_law_361 : decode cL_law 361 = .ok (.pop, 1) := by decide +kernel
theorem dL_law_362 : decode cL_law 362 = .ok (.aload_n 2, 1) := by decide +kernel
theorem dL_law_363 : decode cL_law 363 = .ok (.aload_n 0, 1) := by decide +kernel
theorem dL_law_364 : decode cL_law 364 = .ok (.iload_n 3, 1) := by decide +kernel
theorem dL_law_365 : decode cL_law 365 = .ok (.iconst 1, 1) := by decide +kernel
theorem dL_law_366 : decode cL_law 366 = .ok (.iadd, 1) := by decide +kernel
theorem dL_law_367 : decode cL_law 367 = .ok (.iaload, 1) := by decide +kernel
theorem dL_law_368 : decode cL_law 368 = .ok (.aload_n 0, 1) := by decide +kernel
theorem dL_law_369 : decode cL_law 369 = .ok (.iload_n 3, 1) := by decide +kernel
theorem dL_law_370 : decode cL_law 370 = .ok (.iconst 2, 1) := by decide +kernel
theorem dL_law_371 : decode cL_law 371 = .ok (.iadd, 1) := by decide +kernel
theorem dL_law_372 : decode cL_law 372 = .ok (.iaload, 1) := by decide +kernel
theorem dL_law_373 : decode cL_law 373 = .ok (.aload_n 0, 1) := by decide +kernel
theorem dL_law_374 : decode cL_law 374 = .ok (.iload_n 3, 1) := by decide +kernel
theorem dL_law_375 : decode cL_law 375 = .ok (.iconst 3, 1) := by decide +kernel
theorem dL_law_376 : decode cL_law 376 = .ok (.iadd, 1) := by decide +kernel
theorem dL_law_377 : decode cL_law 377 = .ok (.iaload, 1) := by decide +kernel
theorem dL_law_378 : decode cL_law 378 = .ok (.aload_n 0, 1) := by decide +kernel
theorem dL_law_379 : decode cL_law 379 = .ok (.iload_n 3, 1) := by decide +kernel
theorem dL_law_380 : decode cL_law 380 = .ok (.iconst 4, 1) := by decide +kernel
theorem dL_law_381 : decode cL_law 381 = .ok (.iadd, 1) := by decide +kernel
theorem dL_law_382 : decode cL_law 382 = .ok (.iaload, 1) := by decide +kernel
theorem dL_law_383 : decode cL_law 383 = .ok (.aload_n 0, 1) := by decide +kernel
theorem dL_law_384 : decode cL_law 384 = .ok (.iload_n 3, 1) := by decide +kernel
theorem dL_law_385 : decode cL_law 385 = .ok (.iconst 5, 1) := by decide +kernel
theorem dL_law_386 : decode cL_law 386 = .ok (.iadd, 1) := by decide +kernel
theorem dL_law_387 : decode cL_law 387 = .ok (.iaload, 1) := by decide +kernel
theorem dL_law_388 : decode cL_law 388 = .ok (.invokevirtual 17, 3) := by decide +kernel
theorem dL_law_391 : decode cL_law 391 = .ok (.pop, 1) := by decide +kernel
theorem dL_law_392 : decode cL_law 392 = .ok (.goto 2073, 3) := by decide +kernel
theorem dL_law_395 : decode cL_law 395 = .ok (.aload_n 1, 1) := by decide +kernel
theorem dL_law_396 : decode cL_law 396 = .ok (.aload_n 0, 1) := by decide +kernel
theorem dL_law_397 : decode cL_law 397 = .ok (.iload_n 3, 1) := by decide +kernel
theorem dL_law_398 : decode cL_law 398 = .ok (.iconst 1, 1) := by decide +kernel
theorem dL_law_399 : decode cL_law 399 = .ok (.iadd, 1) := by decide +kernel
theorem dL_law_400 : decode cL_law 400 = .ok (.iaload, 1) := by decide +kernel
theorem dL_law_401 : decode cL_law 401 = .ok (.invokevirtual 18, 3) := by decide +kernel
theorem dL_law_404 : decode cL_law 404 = .ok (.pop, 1) := by decide +kernel
theorem dL_law_405 : decode cL_law 405 = .ok (.aload_n 2, 1) := by decide +kernel
theorem dL_law_406 : decode cL_law 406 = .ok (.aload_n 0, 1) := by decide +kernel
theorem dL_law_407 : decode cL_law 407 = .ok (.iload_n 3, 1) := by decide +kernel
theorem dL_law_408 : decode cL_law 408 = .ok (.iconst 1, 1) := by decide +kernel
theorem dL_law_409 : decode cL_law 409 = .ok (.iadd, 1) := by decide +kernel
theorem dL_law_410 : decode cL_law 410 = .ok (.iaload, 1) := by decide +kernel
theorem dL_law_411 : decode cL_law 411 = .ok (.invokevirtual 22, 3) := by decide +kernel
theorem dL_law_414 : decode cL_law 414 = .ok (.pop, 1) := by decide +kernel
theorem dL_law_415 : decode cL_law 415 = .ok (.goto 2050, 3) := by decide +kernel
theorem dL_law_418 : decode cL_law 418 = .ok (.aload_n 1, 1) := by decide +kernel
theorem dL_law_419 : decode cL_law 419 = .ok (.invokevirtual 23, 3) := by decide +kernel
theorem dL_law_422 : decode cL_law 422 = .ok (.pop, 1) := by decide +kernel
theorem dL_law_423 : decode cL_law 423 = .ok (.aload_n 2, 1) := by decide +kernel
theorem dL_law_424 : decode cL_law 424 = .ok (.invokevirtual 27, 3) := by decide +kernel
theorem dL_law_427 : decode cL_law 427 = .ok (.pop, 1) := by decide +kernel
theorem dL_law_428 : decode cL_law 428 = .ok (.goto 2037, 3) := by decide +kernel
theorem dL_law_431 : decode cL_law 431 = .ok (.aload_n 1, 1) := by decide +kernel
theorem dL_law_432 : decode cL_law 432 = .ok (.aload_n 0, 1) := by decide +kernel
theorem dL_law_433 : decode cL_law 433 = .ok (.iload_n 3, 1) := by decide +kernel
theorem dL_law_434 : decode cL_law 434 = .ok (.iconst 1, 1) := by decide +kernel
theorem dL_law_435 : decode cL_law 435 = .ok (.iadd, 1) := by decide +kernel
theorem dL_law_436 : decode cL_law 436 = .ok (.iaload, 1) := by decide +kernel
theorem dL_law_437 : decode cL_law 437 = .ok (.invokevirtual 28, 3) := by decide +kernel
theorem dL_law_440 : decode cL_law 440 = .ok (.pop, 1) := by decide +kernel
theorem dL_law_441 : decode cL_law 441 = .ok (.aload_n 2, 1) := by decide +kernel
theorem dL_law_442 : decode cL_law 442 = .ok (.aload_n 0, 1) := by decide +kernel
theorem dL_law_443 : decode cL_law 443 = .ok (.iload_n 3, 1) := by decide +kernel
theorem dL_law_444 : decode cL_law 444 = .ok (.iconst 1, 1) := by decide +kernel
theorem dL_law_445 : decode cL_law 445 = .ok (.iadd, 1) := by decide +kernel
theorem dL_law_446 : decode cL_law 446 = .ok (.iaload, 1) := by decide +kernel
theorem dL_law_447 : decode cL_law 447 = .ok (.invokevirtual 31, 3) := by decide +kernel
theorem dL_law_450 : decode cL_law 450 = .ok (.pop, 1) := by decide +kernel
theorem dL_law_451 : decode cL_law 451 = .ok (.goto 2014, 3) := by decide +kernel
theorem dL_law_454 : decode cL_law 454 = .ok (.aload_n 1, 1) := by decide +kernel
theorem dL_law_455 : decode cL_law 455 = .ok (.aload_n 0, 1) := by decide +kernel
theorem dL_law_456 : decode cL_law 456 = .ok (.iload_n 3, 1) := by decide +kernel
theorem dL_law_457 : decode cL_law 457 = .ok (.iconst 1, 1) := by decide +kernel
theorem dL_law_458 : decode cL_law 458 = .ok (.iadd, 1) := by decide +kernel
theorem dL_law_459 : decode cL_law 459 = .ok (.iaload, 1) := by decide +kernel
theorem dL_law_460 : decode cL_law 460 = .ok (.invokevirtual 32, 3) := by decide +kernel
theorem dL_law_463 : decode cL_law 463 = .ok (.pop, 1) := by decide +kernel
theorem dL_law_464 : decode cL_law 464 = .ok (.aload_n 2, 1) := by decide +kernel
theorem dL_law_465 : decode cL_law 465 = .ok (.aload_n 0, 1) := by decide +kernel
theorem dL_law_466 : decode cL_law 466 = .ok (.iload_n 3, 1) := by decide +kernel
theorem dL_law_467 : decode cL_law 467 = .ok (.iconst 1, 1) := by decide +kernel
theorem dL_law_468 : decode cL_law 468 = .ok (.iadd, 1) := by decide +kernel
theorem dL_law_469 : decode cL_law 469 = .ok (.iaload, 1) := by decide +kernel
theorem dL_law_470 : decode cL_law 470 = .ok (.invokevirtual 35, 3) := by decide +kernel
theorem dL_law_473 : decode cL_law 473 = .ok (.pop, 1) := by decide +kernel
theorem dL_law_474 : decode cL_law 474 = .ok (.goto 1991, 3) := by decide +kernel
theorem dL_law_477 : decode cL_law 477 = .ok (.aload_n 1, 1) := by decide +kernel
theorem dL_law_478 : decode cL_law 478 = .ok (.aload_n 0, 1) := by decide +kernel
theorem dL_law_479 : decode cL_law 479 = .ok (.iload_n 3, 1) := by decide +kernel
theorem dL_law_480 : decode cL_law 480 = .ok (.iconst 1, 1) := by decide +kernel
theorem dL_law_481 : decode cL_law 481 = .ok (.iadd, 1) := by decide +kernel
theorem dL_law_482 : decode cL_law 482 = .ok (.iaload, 1) := by decide +kernel
theorem dL_law_483 : decode cL_law 483 = .ok (.aload_n 0, 1) := by decide +kernel
theorem dL_law_484 : decode cL_law 484 = .ok (.iload_n 3, 1) := by decide +kernel
theorem dL_law_485 : decode cL_law 485 = .ok (.iconst 2, 1) := by decide +kernel
theorem dL_law_486 : decode cL_law 486 = .ok (.iadd, 1) := by decide +kernel
theorem dL_law_487 : decode cL_law 487 = .ok (.iaload, 1) := by decide +kernel
theorem dL_law_488 : decode cL_law 488 = .ok (.invokevirtual 36, 3) := by decide +kernel
theorem dL_law_491 : decode cL_law 491 = .ok (.pop, 1) := by decide +kernel
theorem dL_law_492 : decode cL_law 492 = .ok (.aload_n 2, 1) := by decide +kernel
theorem dL_law_493 : decode cL_law 493 = .ok (.aload_n 0, 1) := by decide +kernel
theorem dL_law_494 : decode cL_law 494 = .ok (.iload_n 3, 1) := by decide +kernel
theorem dL_law_495 : decode cL_law 495 = .ok (.iconst 1, 1) := by decide +kernel
theorem dL_law_496 : decode cL_law 496 = .ok (.iadd, 1) := by decide +kernel
theorem dL_law_497 : decode cL_law 497 = .ok (.iaload, 1) := by decide +kernel
theorem dL_law_498 : decode cL_law 498 = .ok (.aload_n 0, 1) := by decide +kernel
theorem dL_law_499 : decode cL_law 499 = .ok (.iload_n 3, 1) := by decide +kernel
theorem dL_law_500 : decode cL_law 500 = .ok (.iconst 2, 1) := by decide +kernel
theorem dL_law_501 : decode cL_law 501 = .ok (.iadd, 1) := by decide +kernel
theorem dL_law_502 : decode cL_law 502 = .ok (.iaload, 1) := by decide +kernel
theorem dL_law_503 : decode cL_law 503 = .ok (.invokevirtual 40, 3) := by decide +kernel
theorem dL_law_506 : decode cL_law 506 = .ok (.pop, 1) := by decide +kernel
theorem dL_law_507 : decode cL_law 507 = .ok (.goto 1958, 3) := by decide +kernel
theorem dL_law_510 : decode cL_law 510 = .ok (.aload_n 1, 1) := by decide +kernel
theorem dL_law_511 : decode cL_law 511 = .ok (.aload_n 0, 1) := by decide +kernel
theorem dL_law_512 : decode cL_law 512 = .ok (.iload_n 3, 1) := by decide +kernel
theorem dL_law_513 : decode cL_law 513 = .ok (.iconst 1, 1) := by decide +kernel
theorem dL_law_514 : decode cL_law 514 = .ok (.iadd, 1) := by decide +kernel
theorem dL_law_515 : decode cL_law 515 = .ok (.iaload, 1) := by decide +kernel
theorem dL_law_516 : decode cL_law 516 = .ok (.aload_n 0, 1) := by decide +kernel
theorem dL_law_517 : decode cL_law 517 = .ok (.iload_n 3, 1) := by decide +kernel
theorem dL_law_518 : decode cL_law 518 = .ok (.iconst 2, 1) := by decide +kernel
theorem dL_law_519 : decode cL_law 519 = .ok (.iadd, 1) := by decide +kernel
theorem dL_law_520 : decode cL_law 520 = .ok (.iaload, 1) := by decide +kernel
theorem dL_law_521 : decode cL_law 521 = .ok (.invokevirtual 41, 3) := by decide +kernel
theorem dL_law_524 : decode cL_law 524 = .ok (.pop, 1) := by decide +kernel
theorem dL_law_525 : decode cL_law 525 = .ok (.aload_n 2, 1) := by decide +kernel
theorem dL_law_526 : decode cL_law 526 = .ok (.aload_n 0, 1) := by decide +kernel
theorem dL_law_527 : decode cL_law 527 = .ok (.iload_n 3, 1) := by decide +kernel
theorem dL_law_528 : decode cL_law 528 = .ok (.iconst 1, 1) := by decide +kernel
theorem dL_law_529 : decode cL_law 529 = .ok (.iadd, 1) := by decide +kernel
theorem dL_law_530 : decode cL_law 530 = .ok (.iaload, 1) := by decide +kernel
theorem dL_law_531 : decode cL_law 531 = .ok (.aload_n 0, 1) := by decide +kernel
theorem dL_law_532 : decode cL_law 532 = .ok (.iload_n 3, 1) := by decide +kernel
theorem dL_law_533 : decode cL_law 533 = .ok (.iconst 2, 1) := by decide +kernel
theorem dL_law_534 : decode cL_law 534 = .ok (.iadd, 1) := by decide +kernel
theorem dL_law_535 : decode cL_law 535 = .ok (.iaload, 1) := by decide +kernel
theorem dL_law_536 : decode cL_law 536 = .ok (.invokevirtual 44, 3) := by decide +kernel
theorem dL_law_539 : decode cL_law 539 = .ok (.pop, 1) := by decide +kernel
theorem dL_law_540 : decode cL_law 540 = .ok (.goto 1925, 3) := by decide +kernel
theorem dL_law_543 : decode cL_law 543 = .ok (.aload_n 1, 1) := by decide +kernel
theorem dL_law_544 : decode cL_law 544 = .ok (.aload_n 0, 1) := by decide +kernel
theorem dL_law_545 : decode cL_law 545 = .ok (.iload_n 3, 1) := by decide +kernel
theorem dL_law_546 : decode cL_law 546 = .ok (.iconst 1, 1) := by decide +kernel
theorem dL_law_547 : decode cL_law 547 = .ok (.iadd, 1) := by decide +kernel
theorem dL_law_548 : decode cL_law 548 = .ok (.iaload, 1) := by decide +kernel
theorem dL_law_549 : decode cL_law 549 = .ok (.aload_n 0, 1) := by decide +kernel
theorem dL_law_550 : decode cL_law 550 = .ok (.iload_n 3, 1) := by decide +kernel
theorem dL_law_551 : decode cL_law 551 = .ok (.iconst 2, 1) := by decide +kernel
theorem dL_law_552 : decode cL_law 552 = .ok (.iadd, 1) := by decide +kernel
theorem dL_law_553 : decode cL_law 553 = .ok (.iaload, 1) := by decide +kernel
theorem dL_law_554 : decode cL_law 554 = .ok (.invokevirtual 45, 3) := by decide +kernel
theorem dL_law_557 : decode cL_law 557 = .ok (.pop, 1) := by decide +kernel
theorem dL_law_558 : decode cL_law 558 = .ok (.aload_n 2, 1) := by decide +kernel
theorem dL_law_559 : decode cL_law 559 = .ok (.aload_n 0, 1) := by decide +kernel
theorem dL_law_560 : decode cL_law 560 = .ok (.iload_n 3, 1) := by decide +kernel
theorem dL_law_561 : decode cL_law 561 = .ok (.iconst 1, 1) := by decide +kernel
theorem dL_law_562 : decode cL_law 562 = .ok (.iadd, 1) := by decide +kernel
theorem dL_law_563 : decode cL_law 563 = .ok (.iaload, 1) := by decide +kernel
theorem dL_law_564 : decode cL_law 564 = .ok (.aload_n 0, 1) := by decide +kernel
theorem dL_law_565 : decode cL_law 565 = .ok (.iload_n 3, 1) := by decide +kernel
theorem dL_law_566 : decode cL_law 566 = .ok (.iconst 2, 1) := by decide +kernel
theorem dL_law_567 : decode cL_law 567 = .ok (.iadd, 1) := by decide +kernel
theorem dL_law_568 : decode cL_law 568 = .ok (.iaload, 1) := by decide +kernel
theorem dL_law_569 : decode cL_law 569 = .ok (.invokevirtual 48, 3) := by decide +kernel
theorem dL_law_572 : decode cL_law 572 = .ok (.pop, 1) := by decide +kernel
theorem dL_law_573 : decode cL_law 573 = .ok (.goto 1892, 3) := by decide +kernel
theorem dL_law_576 : decode cL_law 576 = .ok (.aload_n 1, 1) := by decide +kernel
theorem dL_law_577 : decode cL_law 577 = .ok (.aload_n 0, 1) := by decide +kernel
theorem dL_law_578 : decode cL_law 578 = .ok (.iload_n 3, 1) := by decide +kernel
theorem dL_law_579 : decode cL_law 579 = .ok (.iconst 1, 1) := by decide +kernel
theorem dL_law_580 : decode cL_law 580 = .ok (.iadd, 1) := by decide +kernel
theorem dL_law_581 : decode cL_law 581 = .ok (.iaload, 1) := by decide +kernel
theorem dL_law_582 : decode cL_law 582 = .ok (.invokevirtual 49, 3) := by decide +kernel
theorem dL_law_585 : decode cL_law 585 = .ok (.pop, 1) := by decide +kernel
theorem dL_law_586 : decode cL_law 586 = .ok (.aload_n 2, 1) := by decide +kernel
theorem dL_law_587 : decode cL_law 587 = .ok (.aload_n 0, 1) := by decide +kernel
theorem dL_law_588 : decode cL_law 588 = .ok (.iload_n 3, 1) := by decide +kernel
theorem dL_law_589 : decode cL_law 589 = .ok (.iconst 1, 1) := by decide +kernel
theorem dL_law_590 : decode cL_law 590 = .ok (.iadd, 1) := by decide +kernel
theorem dL_law_591 : decode cL_law 591 = .ok (.iaload, 1) := by decide +kernel
theorem dL_law_592 : decode cL_law 592 = .ok (.invokevirtual 52, 3) := by decide +kernel
theorem dL_law_595 : decode cL_law 595 = .ok (.pop, 1) := by decide +kernel
theorem dL_law_596 : decode cL_law 596 = .ok (.goto 1869, 3) := by decide +kernel
theorem dL_law_599 : decode cL_law 599 = .ok (.aload_n 1, 1) := by decide +kernel
theorem dL_law_600 : decode cL_law 600 = .ok (.aload_n 0, 1) := by decide +kernel
theorem dL_law_601 : decode cL_law 601 = .ok (.iload_n 3, 1) := by decide +kernel
theorem dL_law_602 : decode cL_law 602 = .ok (.iconst 1, 1) := by decide +kernel
theorem dL_law_603 : decode cL_law 603 = .ok (.iadd, 1) := by decide +kernel
theorem dL_law_604 : decode cL_law 604 = .ok (.iaload, 1) := by decide +kernel
theorem dL_law_605 : decode cL_law 605 = .ok (.invokevirtual 53, 3) := by decide +kernel
theorem dL_law_608 : decode cL_law 608 = .ok (.pop, 1) := by decide +kernel
theorem dL_law_609 : decode cL_law 609 = .ok (.aload_n 2, 1) := by decide +kernel
theorem dL_law_610 : decode cL_law 610 = .ok (.aload_n 0, 1) := by decide +kernel
theorem dL_law_611 : decode cL_law 611 = .ok (.iload_n 3, 1) := by decide +kernel
theorem dL_law_612 : decode cL_law 612 = .ok (.iconst 1, 1) := by decide +kernel
theorem dL_law_613 : decode cL_law 613 = .ok (.iadd, 1) := by decide +kernel
theorem dL_law_614 : decode cL_law 614 = .ok (.iaload, 1) := by decide +kernel
theorem dL_law_615 : decode cL_law 615 = .ok (.invokevirtual 56, 3) := by decide +kernel
theorem dL_law_618 : decode cL_law 618 = .ok (.pop, 1) := by decide +kernel
theorem dL_law_619 : decode cL_law 619 = .ok (.goto 1846, 3) := by decide +kernel
theorem dL_law_622 : decode cL_law 622 = .ok (.aload_n 1, 1) := by decide +kernel
theorem dL_law_623 : decode cL_law 623 = .ok (.aload_n 0, 1) := by decide +kernel
theorem dL_law_624 : decode cL_law 624 = .ok (.iload_n 3, 1) := by decide +kernel
theorem dL_law_625 : decode cL_law 625 = .ok (.iconst 1, 1) := by decide +kernel
theorem dL_law_626 : decode cL_law 626 = .ok (.iadd, 1) := by decide +kernel
theorem dL_law_627 : decode cL_law 627 = .ok (.iaload, 1) := by decide +kernel
theorem dL_law_628 : decode cL_law 628 = .ok (.aload_n 0, 1) := by decide +kernel
theorem dL_law_629 : decode cL_law 629 = .ok (.iload_n 3, 1) := by decide +kernel
theorem dL_law_630 : decode cL_law 630 = .ok (.iconst 2, 1) := by decide +kernel
theorem dL_law_631 : decode cL_law 631 = .ok (.iadd, 1) := by decide +kernel
theorem dL_law_632 : decode cL_law 632 = .ok (.iaload, 1) := by decide +kernel
theorem dL_law_633 : decode cL_law 633 = .ok (.invokevirtual 57, 3) := by decide +kernel
theorem dL_law_636 : decode cL_law 636 = .ok (.pop, 1) := by decide +kernel
theorem dL_law_637 : decode cL_law 637 = .ok (.aload_n 2, 1) := by decide +kernel
theorem dL_law_638 : decode cL_law 638 = .ok (.aload_n 0, 1) := by decide +kernel
theorem dL_law_639 : decode cL_law 639 = .ok (.iload_n 3, 1) := by decide +kernel
theorem dL_law_640 : decode cL_law 640 = .ok (.iconst 1, 1) := by decide +kernel
theorem dL_law_641 : decode cL_law 641 = .ok (.iadd, 1) := by decide +kernel
theorem dL_law_642 : decode cL_law 642 = .ok (.iaload, 1) := by decide +kernel
theorem dL_law_643 : decode cL_law 643 = .ok (.aload_n 0, 1) := by decide +kernel
theorem dL_law_644 : decode cL_law 644 = .ok (.iload_n 3, 1) := by decide +kernel
theorem dL_law_645 : decode cL_law 645 = .ok (.iconst 2, 1) := by decide +kernel
theorem dL_law_646 : decode cL_law 646 = .ok (.iadd, 1) := by decide +kernel
theorem dL_law_647 : decode cL_law 647 = .ok (.iaload, 1) := by decide +kernel
theorem dL_law_648 : decode cL_law 648 = .ok (.invokevirtual 60, 3) := by decide +kernel
theorem dL_law_651 : decode cL_law 651 = .ok (.pop, 1) := by decide +kernel
theorem dL_law_652 : decode cL_law 652 = .ok (.goto 1813, 3) := by decide +kernel
theorem dL_law_655 : decode cL_law 655 = .ok (.aload_n 1, 1) := by decide +kernel
theorem dL_law_656 : decode cL_law 656 = .ok (.aload_n 0, 1) := by decide +kernel
theorem dL_law_657 : decode cL_law 657 = .ok (.iload_n 3, 1) := by decide +kernel
theorem dL_law_658 : decode cL_law 658 = .ok (.iconst 1, 1) := by decide +kernel
theorem dL_law_659 : decode cL_law 659 = .ok (.iadd, 1) := by decide +kernel
theorem dL_law_660 : decode cL_law 660 = .ok (.iaload, 1) := by decide +kernel
theorem dL_law_661 : decode cL_law 661 = .ok (.aload_n 0, 1) := by decide +kernel
theorem dL_law_662 : decode cL_law 662 = .ok (.iload_n 3, 1) := by decide +kernel
theorem dL_law_663 : decode cL_law 663 = .ok (.iconst 2, 1) := by decide +kernel
theorem dL_law_664 : decode cL_law 664 = .ok (.iadd, 1) := by decide +kernel
theorem dL_law_665 : decode cL_law 665 = .ok (.iaload, 1) := by decide +kernel
theorem dL_law_666 : decode cL_law 666 = .ok (.aload_n 0, 1) := by decide +kernel
theorem dL_law_667 : decode cL_law 667 = .ok (.iload_n 3, 1) := by decide +kernel
theorem dL_law_668 : decode cL_law 668 = .ok (.iconst 3, 1) := by decide +kernel
theorem dL_law_669 : decode cL_law 669 = .ok (.iadd, 1) := by decide +kernel
theorem dL_law_670 : decode cL_law 670 = .ok (.iaload, 1) := by decide +kernel
theorem dL_law_671 : decode cL_law 671 = .ok (.aload_n 0, 1) := by decide +kernel
theorem dL_law_672 : decode cL_law 672 = .ok (.iload_n 3, 1) := by decide +kernel
theorem dL_law_673 : decode cL_law 673 = .ok (.iconst 4, 1) := by decide +kernel
theorem dL_law_674 : decode cL_law 674 = .ok (.iadd, 1) := by decide +kernel
theorem dL_law_675 : decode cL_law 675 = .ok (.iaload, 1) := by decide +kernel
theorem dL_law_676 : decode cL_law 676 = .ok (.invokevirtual 61, 3) := by decide +kernel
theorem dL_law_679 : decode cL_law 679 = .ok (.pop, 1) := by decide +kernel
theorem dL_law_680 : decode cL_law 680 = .ok (.aload_n 2, 1) := by decide +kernel
theorem dL_law_681 : decode cL_law 681 = .ok (.aload_n 0, 1) := by decide +kernel
theorem dL_law_682 : decode cL_law 682 = .ok (.iload_n 3, 1) := by decide +kernel
theorem dL_law_683 : decode cL_law 683 = .ok (.iconst 1, 1) := by decide +kernel
theorem dL_law_684 : decode cL_law 684 = .ok (.iadd, 1) := by decide +kernel
theorem dL_law_685 : decode cL_law 685 = .ok (.iaload, 1) := by decide +kernel
theorem dL_law_686 : decode cL_law 686 = .ok (.aload_n 0, 1) := by decide +kernel
theorem dL_law_687 : decode cL_law 687 = .ok (.iload_n 3, 1) := by decide +kernel
theorem dL_law_688 : decode cL_law 688 = .ok (.iconst 2, 1) := by decide +kernel
theorem dL_law_689 : decode cL_law 689 = .ok (.iadd, 1) := by decide +kernel
theorem dL_law_690 : decode cL_law 690 = .ok (.iaload, 1) := by decide +kernel
theorem dL_law_691 : decode cL_law 691 = .ok (.aload_n 0, 1) := by decide +kernel
theorem dL_law_692 : decode cL_law 692 = .ok (.iload_n 3, 1) := by decide +kernel
theorem dL_law_693 : decode cL_law 693 = .ok (.iconst 3, 1) := by decide +kernel
theorem dL_law_694 : decode cL_law 694 = .ok (.iadd, 1) := by decide +kernel
theorem dL_law_695 : decode cL_law 695 = .ok (.iaload, 1) := by decide +kernel
theorem dL_law_696 : decode cL_law 696 = .ok (.aload_n 0, 1) := by decide +kernel
theorem dL_law_697 : decode cL_law 697 = .ok (.iload_n 3, 1) := by decide +kernel
theorem dL_law_698 : decode cL_law 698 = .ok (.iconst 4, 1) := by decide +kernel
theorem dL_law_699 : decode cL_law 699 = .ok (.iadd, 1) := by decide +kernel
theorem dL_law_700 : decode cL_law 700 = .ok (.iaload, 1) := by decide +kernel
theorem dL_law_701 : decode cL_law 701 = .ok (.invokevirtual 65, 3) := by decide +kernel
theorem dL_law_704 : decode cL_law 704 = .ok (.pop, 1) := by decide +kernel
theorem dL_law_705 : decode cL_law 705 = .ok (.goto 1760, 3) := by decide +kernel
theorem dL_law_708 : decode cL_law 708 = .ok (.aload_n 1, 1) := by decide +kernel
theorem dL_law_709 : decode cL_law 709 = .ok (.aload_n 0, 1) := by decide +kernel
theorem dL_law_710 : decode cL_law 710 = .ok (.iload_n 3, 1) := by decide +kernel
theorem dL_law_711 : decode cL_law 711 = .ok (.iconst 1, 1) := by decide +kernel
theorem dL_law_712 : decode cL_law 712 = .ok (.iadd, 1) := by decide +kernel
theorem dL_law_713 : decode cL_law 713 = .ok (.iaload, 1) := by decide +kernel
theorem dL_law_714 : decode cL_law 714 = .ok (.aload_n 0, 1) := by decide +kernel
theorem dL_law_715 : decode cL_law 715 = .ok (.iload_n 3, 1) := by decide +kernel
theorem dL_law_716 : decode cL_law 716 = .ok (.iconst 2, 1) := by decide +kernel
theorem dL_law_717 : decode cL_law 717 = .ok (.iadd, 1) := by decide +kernel
theorem dL_law_718 : decode cL_law 718 = .ok (.iaload, 1) := by decide +kernel
theorem dL_law_719 : decode cL_law 719 = .ok (.invokevirtual 66, 3) := by decide +kernel
theorem dL_law_722 : decode cL_law 722 = .ok (.pop, 1) := by decide +kernel
theorem dL_law_723 : decode cL_law 723 = .ok (.aload_n 2, 1) := by decide +kernel
theorem dL_law_724 : decode cL_law 724 = .ok (.aload_n 0, 1) := by decide +kernel
theorem dL_law_725 : decode cL_law 725 = .ok (.iload_n 3, 1) := by decide +kernel
theorem dL_law_726 : decode cL_law 726 = .ok (.iconst 1, 1) := by decide +kernel
theorem dL_law_727 : decode cL_law 727 = .ok (.iadd, 1) := by decide +kernel
theorem dL_law_728 : decode cL_law 728 = .ok (.iaload, 1) := by decide +kernel
theorem dL_law_729 : decode cL_law 729 = .ok (.aload_n 0, 1) := by decide +kernel
theorem dL_law_730 : decode cL_law 730 = .ok (.iload_n 3, 1) := by decide +kernel
theorem dL_law_731 : decode cL_law 731 = .ok (.iconst 2, 1) := by decide +kernel
theorem dL_law_732 : decode cL_law 732 = .ok (.iadd, 1) := by decide +kernel
theorem dL_law_733 : decode cL_law 733 = .ok (.iaload, 1) := by decide +kernel
theorem dL_law_734 : decode cL_law 734 = .ok (.invokevirtual 69, 3) := by decide +kernel
theorem dL_law_737 : decode cL_law 737 = .ok (.pop, 1) := by decide +kernel
theorem dL_law_738 : decode cL_law 738 = .ok (.goto 1727, 3) := by decide +kernel
theorem dL_law_741 : decode cL_law 741 = .ok (.aload_n 1, 1) := by decide +kernel
theorem dL_law_742 : decode cL_law 742 = .ok (.aload_n 0, 1) := by decide +kernel
theorem dL_law_743 : decode cL_law 743 = .ok (.iload_n 3, 1) := by decide +kernel
theorem dL_law_744 : decode cL_law 744 = .ok (.iconst 1, 1) := by decide +kernel
theorem dL_law_745 : decode cL_law 745 = .ok (.iadd, 1) := by decide +kernel
theorem dL_law_746 : decode cL_law 746 = .ok (.iaload, 1) := by decide +kernel
theorem dL_law_747 : decode cL_law 747 = .ok (.aload_n 0, 1) := by decide +kernel
theorem dL_law_748 : decode cL_law 748 = .ok (.iload_n 3, 1) := by decide +kernel
theorem dL_law_749 : decode cL_law 749 = .ok (.iconst 2, 1) := by decide +kernel
theorem dL_law_750 : decode cL_law 750 = .ok (.iadd, 1) := by decide +kernel
theorem dL_law_751 : decode cL_law 751 = .ok (.iaload, 1) := by decide +kernel
theorem dL_law_752 : decode cL_law 752 = .ok (.aload_n 0, 1) := by decide +kernel
theorem dL_law_753 : decode cL_law 753 = .ok (.iload_n 3, 1) := by decide +kernel
theorem dL_law_754 : decode cL_law 754 = .ok (.iconst 3, 1) := by decide +kernel
theorem dL_law_755 : decode cL_law 755 = .ok (.iadd, 1) := by decide +kernel
theorem dL_law_756 : decode cL_law 756 = .ok (.iaload, 1) := by decide +kernel
theorem dL_law_757 : decode cL_law 757 = .ok (.invokevirtual 70, 3) := by decide +kernel
theorem dL_law_760 : decode cL_law 760 = .ok (.pop, 1) := by decide +kernel
theorem dL_law_761 : decode cL_law 761 = .ok (.aload_n 2, 1) := by decide +kernel
theorem dL_law_762 : decode cL_law 762 = .ok (.aload_n 0, 1) := by decide +kernel
theorem dL_law_763 : decode cL_law 763 = .ok (.iload_n 3, 1) := by decide +kernel
theorem dL_law_764 : decode cL_law 764 = .ok (.iconst 1, 1) := by decide +kernel
theorem dL_law_765 : decode cL_law 765 = .ok (.iadd, 1) := by decide +kernel
theorem dL_law_766 : decode cL_law 766 = .ok (.iaload, 1) := by decide +kernel
theorem dL_law_767 : decode cL_law 767 = .ok (.aload_n 0, 1) := by decide +kernel
theorem dL_law_768 : decode cL_law 768 = .ok (.iload_n 3, 1) := by decide +kernel
theorem dL_law_769 : decode cL_law 769 = .ok (.iconst 2, 1) := by decide +kernel
theorem dL_law_770 : decode cL_law 770 = .ok (.iadd, 1) := by decide +kernel
theorem dL_law_771 : decode cL_law 771 = .ok (.iaload, 1) := by decide +kernel
theorem dL_law_772 : decode cL_law 772 = .ok (.aload_n 0, 1) := by decide +kernel
theorem dL_law_773 : decode cL_law 773 = .ok (.iload_n 3, 1) := by decide +kernel
theorem dL_law_774 : decode cL_law 774 = .ok (.iconst 3, 1) := by decide +kernel
theorem dL_law_775 : decode cL_law 775 = .ok (.iadd, 1) := by decide +kernel
theorem dL_law_776 : decode cL_law 776 = .ok (.iaload, 1) := by decide +kernel
theorem dL_law_777 : decode cL_law 777 = .ok (.invokevirtual 74, 3) := by decide +kernel
theorem dL_law_780 : decode cL_law 780 = .ok (.pop, 1) := by decide +kernel
theorem dL_law_781 : decode cL_law 781 = .ok (.goto 1684, 3) := by decide +kernel
theorem dL_law_784 : decode cL_law 784 = .ok (.aload_n 1, 1) := by decide +kernel
theorem dL_law_785 : decode cL_law 785 = .ok (.aload_n 0, 1) := by decide +kernel
theorem dL_law_786 : decode cL_law 786 = .ok (.iload_n 3, 1) := by decide +kernel
theorem dL_law_787 : decode cL_law 787 = .ok (.iconst 1, 1) := by decide +kernel
theorem dL_law_788 : decode cL_law 788 = .ok (.iadd, 1) := by decide +kernel
theorem dL_law_789 : decode cL_law 789 = .ok (.iaload, 1) := by decide +kernel
theorem dL_law_790 : decode cL_law 790 = .ok (.aload_n 0, 1) := by decide +kernel
theorem dL_law_791 : decode cL_law 791 = .ok (.iload_n 3, 1) := by decide +kernel
theorem dL_law_792 : decode cL_law 792 = .ok (.iconst 2, 1) := by decide +kernel
theorem dL_law_793 : decode cL_law 793 = .ok (.iadd, 1) := by decide +kernel
theorem dL_law_794 : decode cL_law 794 = .ok (.iaload, 1) := by decide +kernel
theorem dL_law_795 : decode cL_law 795 = .ok (.invokevirtual 75, 3) := by decide +kernel
theorem dL_law_798 : decode cL_law 798 = .ok (.pop, 1) := by decide +kernel
theorem dL_law_799 : decode cL_law 799 = .ok (.aload_n 2, 1) := by decide +kernel
theorem dL_law_800 : decode cL_law 800 = .ok (.aload_n 0, 1) := by decide +kernel
theorem dL_law_801 : decode cL_law 801 = .ok (.iload_n 3, 1) := by decide +kernel
theorem dL_law_802 : decode cL_law 802 = .ok (.iconst 1, 1) := by decide +kernel
theorem dL_law_803 : decode cL_law 803 = .ok (.iadd, 1) := by decide +kernel
theorem dL_law_804 : decode cL_law 804 = .ok (.iaload, 1) := by decide +kernel
theorem dL_law_805 : decode cL_law 805 = .ok (.aload_n 0, 1) := by decide +kernel
theorem dL_law_806 : decode cL_law 806 = .ok (.iload_n 3, 1) := by decide +kernel
theorem dL_law_807 : decode cL_law 807 = .ok (.iconst 2, 1) := by decide +kernel
theorem dL_law_808 : decode cL_law 808 = .ok (.iadd, 1) := by decide +kernel
theorem dL_law_809 : decode cL_law 809 = .ok (.iaload, 1) := by decide +kernel
theorem dL_law_810 : decode cL_law 810 = .ok (.invokevirtual 78, 3) := by decide +kernel
theorem dL_law_813 : decode cL_law 813 = .ok (.pop, 1) := by decide +kernel
theorem dL_law_814 : decode cL_law 814 = .ok (.goto 1651, 3) := by decide +kernel
theorem dL_law_817 : decode cL_law 817 = .ok (.aload_n 1, 1) := by decide +kernel
theorem dL_law_818 : decode cL_law 818 = .ok (.aload_n 0, 1) := by decide +kernel
theorem dL_law_819 : decode cL_law 819 = .ok (.iload_n 3, 1) := by decide +kernel
theorem dL_law_820 : decode cL_law 820 = .ok (.iconst 1, 1) := by decide +kernel
theorem dL_law_821 : decode cL_law 821 = .ok (.iadd, 1) := by decide +kernel
theorem dL_law_822 : decode cL_law 822 = .ok (.iaload, 1) := by decide +kernel
theorem dL_law_823 : decode cL_law 823 = .ok (.invokevirtual 79, 3) := by decide +kernel
theorem dL_law_826 : decode cL_law 826 = .ok (.pop, 1) := by decide +kernel
theorem dL_law_827 : decode cL_law 827 = .ok (.aload_n 2, 1) := by decide +kernel
theorem dL_law_828 : decode cL_law 828 = .ok (.aload_n 0, 1) := by decide +kernel
theorem dL_law_829 : decode cL_law 829 = .ok (.iload_n 3, 1) := by decide +kernel
theorem dL_law_830 : decode cL_law 830 = .ok (.iconst 1, 1) := by decide +kernel
theorem dL_law_831 : decode cL_law 831 = .ok (.iadd, 1) := by decide +kernel
theorem dL_law_832 : decode cL_law 832 = .ok (.iaload, 1) := by decide +kernel
theorem dL_law_833 : decode cL_law 833 = .ok (.invokevirtual 82, 3) := by decide +kernel
theorem dL_law_836 : decode cL_law 836 = .ok (.pop, 1) := by decide +kernel
theorem dL_law_837 : decode cL_law 837 = .ok (.goto 1628, 3) := by decide +kernel
theorem dL_law_840 : decode cL_law 840 = .ok (.aload_n 1, 1) := by decide +kernel
theorem dL_law_841 : decode cL_law 841 = .ok (.aload_n 0, 1) := by decide +kernel
theorem dL_law_842 : decode cL_law 842 = .ok (.iload_n 3, 1) := by decide +kernel
theorem dL_law_843 : decode cL_law 843 = .ok (.iconst 1, 1) := by decide +kernel
theorem dL_law_844 : decode cL_law 844 = .ok (.iadd, 1) := by decide +kernel
theorem dL_law_845 : decode cL_law 845 = .ok (.iaload, 1) := by decide +kernel
theorem dL_law_846 : decode cL_law 846 = .ok (.aload_n 0, 1) := by decide +kernel
theorem dL_law_847 : decode cL_law 847 = .ok (.iload_n 3, 1) := by decide +kernel
theorem dL_law_848 : decode cL_law 848 = .ok (.iconst 2, 1) := by decide +kernel
theorem dL_law_849 : decode cL_law 849 = .ok (.iadd, 1) := by decide +kernel
theorem dL_law_850 : decode cL_law 850 = .ok (.iaload, 1) := by decide +kernel
theorem dL_law_851 : decode cL_law 851 = .ok (.invokevirtual 83, 3) := by decide +kernel
theorem dL_law_854 : decode cL_law 854 = .ok (.pop, 1) := by decide +kernel
theorem dL_law_855 : decode cL_law 855 = .ok (.aload_n 2, 1) := by decide +kernel
theorem dL_law_856 : decode cL_law 856 = .ok (.aload_n 0, 1) := by decide +kernel
theorem dL_law_857 : decode cL_law 857 = .ok (.iload_n 3, 1) := by decide +kernel
theorem dL_law_858 : decode cL_law 858 = .ok (.iconst 1, 1) := by decide +kernel
theorem dL_law_859 : decode cL_law 859 = .ok (.iadd, 1) := by decide +kernel
theorem dL_law_860 : decode cL_law 860 = .ok (.iaload, 1) := by decide +kernel
theorem dL_law_861 : decode cL_law 861 = .ok (.aload_n 0, 1) := by decide +kernel
theorem dL_law_862 : decode cL_law 862 = .ok (.iload_n 3, 1) := by decide +kernel
theorem dL_law_863 : decode cL_law 863 = .ok (.iconst 2, 1) := by decide +kernel
theorem dL_law_864 : decode cL_law 864 = .ok (.iadd, 1) := by decide +kernel
theorem dL_law_865 : decode cL_law 865 = .ok (.iaload, 1) := by decide +kernel
theorem dL_law_866 : decode cL_law 866 = .ok (.invokevirtual 86, 3) := by decide +kernel
theorem dL_law_869 : decode cL_law 869 = .ok (.pop, 1) := by decide +kernel
theorem dL_law_870 : decode cL_law 870 = .ok (.goto 1595, 3) := by decide +kernel
theorem dL_law_873 : decode cL_law 873 = .ok (.aload_n 1, 1) := by decide +kernel
theorem dL_law_874 : decode cL_law 874 = .ok (.aload_n 0, 1) := by decide +kernel
theorem dL_law_875 : decode cL_law 875 = .ok (.iload_n 3, 1) := by decide +kernel
theorem dL_law_876 : decode cL_law 876 = .ok (.iconst 1, 1) := by decide +kernel
theorem dL_law_877 : decode cL_law 877 = .ok (.iadd, 1) := by decide +kernel
theorem dL_law_878 : decode cL_law 878 = .ok (.iaload, 1) := by decide +kernel
theorem dL_law_879 : decode cL_law 879 = .ok (.aload_n 0, 1) := by decide +kernel
theorem dL_law_880 : decode cL_law 880 = .ok (.iload_n 3, 1) := by decide +kernel
theorem dL_law_881 : decode cL_law 881 = .ok (.iconst 2, 1) := by decide +kernel
theorem dL_law_882 : decode cL_law 882 = .ok (.iadd, 1) := by decide +kernel
theorem dL_law_883 : decode cL_law 883 = .ok (.iaload, 1) := by decide +kernel
theorem dL_law_884 : decode cL_law 884 = .ok (.invokevirtual 87, 3) := by decide +kernel
theorem dL_law_887 : decode cL_law 887 = .ok (.pop, 1) := by decide +kernel
theorem dL_law_888 : decode cL_law 888 = .ok (.aload_n 2, 1) := by decide +kernel
theorem dL_law_889 : decode cL_law 889 = .ok (.aload_n 0, 1) := by decide +kernel
theorem dL_law_890 : decode cL_law 890 = .ok (.iload_n 3, 1) := by decide +kernel
theorem dL_law_891 : decode cL_law 891 = .ok (.iconst 1, 1) := by decide +kernel
theorem dL_law_892 : decode cL_law 892 = .ok (.iadd, 1) := by decide +kernel
theorem dL_law_893 : decode cL_law 893 = .ok (.iaload, 1) := by decide +kernel
theorem dL_law_894 : decode cL_law 894 = .ok (.aload_n 0, 1) := by decide +kernel
theorem dL_law_895 : decode cL_law 895 = .ok (.iload_n 3, 1) := by decide +kernel
theorem dL_law_896 : decode cL_law 896 = .ok (.iconst 2, 1) := by decide +kernel
theorem dL_law_897 : decode cL_law 897 = .ok (.iadd, 1) := by decide +kernel
theorem dL_law_898 : decode cL_law 898 = .ok (.iaload, 1) := by decide +kernel
theorem dL_law_899 : decode cL_law 899 = .ok (.invokevirtual 90, 3) := by decide +kernel
theorem dL_law_902 : decode cL_law 902 = .ok (.pop, 1) := by decide +kernel
theorem dL_law_903 : decode cL_law 903 = .ok (.goto 1562, 3) := by decide +kernel
theorem dL_law_906 : decode cL_law 906 = .ok (.aload_n 1, 1) := by decide +kernel
theorem dL_law_907 : decode cL_law 907 = .ok (.aload_n 0, 1) := by decide +kernel
theorem dL_law_908 : decode cL_law 908 = .ok (.iload_n 3, 1) := by decide +kernel
theorem dL_law_909 : decode cL_law 909 = .ok (.iconst 1, 1) := by decide +kernel
theorem dL_law_910 : decode cL_law 910 = .ok (.iadd, 1) := by decide +kernel
theorem dL_law_911 : decode cL_law 911 = .ok (.iaload, 1) := by decide +kernel
theorem dL_law_912 : decode cL_law 912 = .ok (.aload_n 0, 1) := by decide +kernel
theorem dL_law_913 : decode cL_law 913 = .ok (.iload_n 3, 1) := by decide +kernel
theorem dL_law_914 : decode cL_law 914 = .ok (.iconst 2, 1) := by decide +kernel
theorem dL_law_915 : decode cL_law 915 = .ok (.iadd, 1) := by decide +kernel
theorem dL_law_916 : decode cL_law 916 = .ok (.iaload, 1) := by decide +kernel
theorem dL_law_917 : decode cL_law 917 = .ok (.invokevirtual 91, 3) := by decide +kernel
theorem dL_law_920 : decode cL_law 920 = .ok (.pop, 1) := by decide +kernel
theorem dL_law_921 : decode cL_law 921 = .ok (.aload_n 2, 1) := by decide +kernel
theorem dL_law_922 : decode cL_law 922 = .ok (.aload_n 0, 1) := by decide +kernel
theorem dL_law_923 : decode cL_law 923 = .ok (.iload_n 3, 1) := by decide +kernel
theorem dL_law_924 : decode cL_law 924 = .ok (.iconst 1, 1) := by decide +kernel
theorem dL_law_925 : decode cL_law 925 = .ok (.iadd, 1) := by decide +kernel
theorem dL_law_926 : decode cL_law 926 = .ok (.iaload, 1) := by decide +kernel
theorem dL_law_927 : decode cL_law 927 = .ok (.aload_n 0, 1) := by decide +kernel
theorem dL_law_928 : decode cL_law 928 = .ok (.iload_n 3, 1) := by decide +kernel
theorem dL_law_929 : decode cL_law 929 = .ok (.iconst 2, 1) := by decide +kernel
theorem dL_law_930 : decode cL_law 930 = .ok (.iadd, 1) := by decide +kernel
theorem dL_law_931 : decode cL_law 931 = .ok (.iaload, 1) := by decide +kernel
theorem dL_law_932 : decode cL_law 932 = .ok (.invokevirtual 94, 3) := by decide +kernel
theorem dL_law_935 : decode cL_law 935 = .ok (.pop, 1) := by decide +kernel
theorem dL_law_936 : decode cL_law 936 = .ok (.goto 1529, 3) := by decide +kernel
theorem dL_law_939 : decode cL_law 939 = .ok (.aload_n 1, 1) := by decide +kernel
theorem dL_law_940 : decode cL_law 940 = .ok (.aload_n 0, 1) := by decide +kernel
theorem dL_law_941 : decode cL_law 941 = .ok (.iload_n 3, 1) := by decide +kernel
theorem dL_law_942 : decode cL_law 942 = .ok (.iconst 1, 1) := by decide +kernel
theorem dL_law_943 : decode cL_law 943 = .ok (.iadd, 1) := by decide +kernel
theorem dL_law_944 : decode cL_law 944 = .ok (.iaload, 1) := by decide +kernel
theorem dL_law_945 : decode cL_law 945 = .ok (.invokevirtual 95, 3) := by decide +kernel
theorem dL_law_948 : decode cL_law 948 = .ok (.pop, 1) := by decide +kernel
theorem dL_law_949 : decode cL_law 949 = .ok (.aload_n 2, 1) := by decide +kernel
theorem dL_law_950 : decode cL_law 950 = .ok (.aload_n 0, 1) := by decide +kernel
theorem dL_law_951 : decode cL_law 951 = .ok (.iload_n 3, 1) := by decide +kernel
theorem dL_law_952 : decode cL_law 952 = .ok (.iconst 1, 1) := by decide +kernel
theorem dL_law_953 : decode cL_law 953 = .ok (.iadd, 1) := by decide +kernel
theorem dL_law_954 : decode cL_law 954 = .ok (.iaload, 1) := by decide +kernel
theorem dL_law_955 : decode cL_law 955 = .ok (.invokevirtual 98, 3) := by decide +kernel
theorem dL_law_958 : decode cL_law 958 = .ok (.pop, 1) := by decide +kernel
theorem dL_law_959 : decode cL_law 959 = .ok (.goto 1506, 3) := by decide +kernel
theorem dL_law_962 : decode cL_law 962 = .ok (.aload_n 1, 1) := by decide +kernel
theorem dL_law_963 : decode cL_law 963 = .ok (.aload_n 0, 1) := by decide +kernel
theorem dL_law_964 : decode cL_law 964 = .ok (.iload_n 3, 1) := by decide +kernel
theorem dL_law_965 : decode cL_law 965 = .ok (.iconst 1, 1) := by decide +kernel
theorem dL_law_966 : decode cL_law 966 = .ok (.iadd, 1) := by decide +kernel
theorem dL_law_967 : decode cL_law 967 = .ok (.iaload, 1) := by decide +kernel
theorem dL_law_968 : decode cL_law 968 = .ok (.invokevirtual 99, 3) := by decide +kernel
theorem dL_law_971 : decode cL_law 971 = .ok (.pop, 1) := by decide +kernel
theorem dL_law_972 : decode cL_law 972 = .ok (.aload_n 2, 1) := by decide +kernel
theorem dL_law_973 : decode cL_law 973 = .ok (.aload_n 0, 1) := by decide +kernel
theorem dL_law_974 : decode cL_law 974 = .ok (.iload_n 3, 1) := by decide +kernel
theorem dL_law_975 : decode cL_law 975 = .ok (.iconst 1, 1) := by decide +kernel
theorem dL_law_976 : decode cL_law 976 = .ok (.iadd, 1) := by decide +kernel
theorem dL_law_977 : decode cL_law 977 = .ok (.iaload, 1) := by decide +kernel
theorem dL_law_978 : decode cL_law 978 = .ok (.invokevirtual 102, 3) := by decide +kernel
theorem dL_law_981 : decode cL_law 981 = .ok (.pop, 1) := by decide +kernel
theorem dL_law_982 : decode cL_law 982 = .ok (.goto 1483, 3) := by decide +kernel
theorem dL_law_985 : decode cL_law 985 = .ok (.aload_n 1, 1) := by decide +kernel
theorem dL_law_986 : decode cL_law 986 = .ok (.aload_n 0, 1) := by decide +kernel
theorem dL_law_987 : decode cL_law 987 = .ok (.iload_n 3, 1) := by decide +kernel
theorem dL_law_988 : decode cL_law 988 = .ok (.iconst 1, 1) := by decide +kernel
theorem dL_law_989 : decode cL_law 989 = .ok (.iadd, 1) := by decide +kernel
theorem dL_law_990 : decode cL_law 990 = .ok (.iaload, 1) := by decide +kernel
theorem dL_law_991 : decode cL_law 991 = .ok (.invokevirtual 103, 3) := by decide +kernel
theorem dL_law_994 : decode cL_law 994 = .ok (.pop, 1) := by decide +kernel
theorem dL_law_995 : decode cL_law 995 = .ok (.aload_n 2, 1) := by decide +kernel
theorem dL_law_996 : decode cL_law 996 = .ok (.aload_n 0, 1) := by decide +kernel
theorem dL_law_997 : decode cL_law 997 = .ok (.iload_n 3, 1) := by decide +kernel
theorem dL_law_998 : decode cL_law 998 = .ok (.iconst 1, 1) := by decide +kernel
theorem dL_law_999 : decode cL_law 999 = .ok (.iadd, 1) := by decide +kernel
theorem dL_law_1000 : decode cL_law 1000 = .ok (.iaload, 1) := by decide +kernel
theorem dL_law_1001 : decode cL_law 1001 = .ok (.invokevirtual 106, 3) := by decide +kernel
theorem dL_law_1004 : decode cL_law 1004 = .ok (.pop, 1) := by decide +kernel
theorem dL_law_1005 : decode cL_law 1005 = .ok (.goto 1460, 3) := by decide +kernel
theorem dL_law_1008 : decode cL_law 1008 = .ok (.aload_n 1, 1) := by decide +kernel
theorem dL_law_1009 : decode cL_law 1009 = .ok (.aload_n 0, 1) := by decide +kernel
theorem dL_law_1010 : decode cL_law 1010 = .ok (.iload_n 3, 1) := by decide +kernel
theorem dL_law_1011 : decode cL_law 1011 = .ok (.iconst 1, 1) := by decide +kernel
theorem dL_law_1012 : decode cL_law 1012 = .ok (.iadd, 1) := by decide +kernel
theorem dL_law_1013 : decode cL_law 1013 = .ok (.iaload, 1) := by decide +kernel
theorem dL_law_1014 : decode cL_law 1014 = .ok (.aload_n 0, 1) := by decide +kernel
theorem dL_law_1015 : decode cL_law 1015 = .ok (.iload_n 3, 1) := by decide +kernel
theorem dL_law_1016 : decode cL_law 1016 = .ok (.iconst 2, 1) := by decide +kernel
theorem dL_law_1017 : decode cL_law 1017 = .ok (.iadd, 1) := by decide +kernel
theorem dL_law_1018 : decode cL_law 1018 = .ok (.iaload, 1) := by decide +kernel
theorem dL_law_1019 : decode cL_law 1019 = .ok (.invokevirtual 107, 3) := by decide +kernel
theorem dL_law_1022 : decode cL_law 1022 = .ok (.pop, 1) := by decide +kernel
theorem dL_law_1023 : decode cL_law 1023 = .ok (.aload_n 2, 1) := by decide +kernel
theorem dL_law_1024 : decode cL_law 1024 = .ok (.aload_n 0, 1) := by decide +kernel
theorem dL_law_1025 : decode cL_law 1025 = .ok (.iload_n 3, 1) := by decide +kernel
theorem dL_law_1026 : decode cL_law 1026 = .ok (.iconst 1, 1) := by decide +kernel
theorem dL_law_1027 : decode cL_law 1027 = .ok (.iadd, 1) := by decide +kernel
theorem dL_law_1028 : decode cL_law 1028 = .ok (.iaload, 1) := by decide +kernel
theorem dL_law_1029 : decode cL_law 1029 = .ok (.aload_n 0, 1) := by decide +kernel
theorem dL_law_1030 : decode cL_law 1030 = .ok (.iload_n 3, 1) := by decide +kernel
theorem dL_law_1031 : decode cL_law 1031 = .ok (.iconst 2, 1) := by decide +kernel
theorem dL_law_1032 : decode cL_law 1032 = .ok (.iadd, 1) := by decide +kernel
theorem dL_law_1033 : decode cL_law 1033 = .ok (.iaload, 1) := by decide +kernel
theorem dL_law_1034 : decode cL_law 1034 = .ok (.invokevirtual 110, 3) := by decide +kernel
theorem dL_law_1037 : decode cL_law 1037 = .ok (.pop, 1) := by decide +kernel
theorem dL_law_1038 : decode cL_law 1038 = .ok (.goto 1427, 3) := by decide +kernel
theorem dL_law_1041 : decode cL_law 1041 = .ok (.aload_n 1, 1) := by decide +kernel
theorem dL_law_1042 : decode cL_law 1042 = .ok (.aload_n 0, 1) := by decide +kernel
theorem dL_law_1043 : decode cL_law 1043 = .ok (.iload_n 3, 1) := by decide +kernel
theorem dL_law_1044 : decode cL_law 1044 = .ok (.iconst 1, 1) := by decide +kernel
theorem dL_law_1045 : decode cL_law 1045 = .ok (.iadd, 1) := by decide +kernel
theorem dL_law_1046 : decode cL_law 1046 = .ok (.iaload, 1) := by decide +kernel
theorem dL_law_1047 : decode cL_law 1047 = .ok (.aload_n 0, 1) := by decide +kernel
theorem dL_law_1048 : decode cL_law 1048 = .ok (.iload_n 3, 1) := by decide +kernel
theorem dL_law_1049 : decode cL_law 1049 = .ok (.iconst 2, 1) := by decide +kernel
theorem dL_law_1050 : decode cL_law 1050 = .ok (.iadd, 1) := by decide +kernel
theorem dL_law_1051 : decode cL_law 1051 = .ok (.iaload, 1) := by decide +kernel
theorem dL_law_1052 : decode cL_law 1052 = .ok (.aload_n 0, 1) := by decide +kernel
theorem dL_law_1053 : decode cL_law 1053 = .ok (.iload_n 3, 1) := by decide +kernel
theorem dL_law_1054 : decode cL_law 1054 = .ok (.iconst 3, 1) := by decide +kernel
theorem dL_law_1055 : decode cL_law 1055 = .ok (.iadd, 1) := by decide +kernel
theorem dL_law_1056 : decode cL_law 1056 = .ok (.iaload, 1) := by decide +kernel
theorem dL_law_1057 : decode cL_law 1057 = .ok (.invokevirtual 111, 3) := by decide +kernel
theorem dL_law_1060 : decode cL_law 1060 = .ok (.pop, 1) := by decide +kernel
theorem dL_law_1061 : decode cL_law 1061 = .ok (.aload_n 2, 1) := by decide +kernel
theorem dL_law_1062 : decode cL_law 1062 = .ok (.aload_n 0, 1) := by decide +kernel
theorem dL_law_1063 : decode cL_law 1063 = .ok (.iload_n 3, 1) := by decide +kernel
theorem dL_law_1064 : decode cL_law 1064 = .ok (.iconst 1, 1) := by decide +kernel
theorem dL_law_1065 : decode cL_law 1065 = .ok (.iadd, 1) := by decide +kernel
theorem dL_law_1066 : decode cL_law 1066 = .ok (.iaload, 1) := by decide +kernel
theorem dL_law_1067 : decode cL_law 1067 = .ok (.aload_n 0, 1) := by decide +kernel
theorem dL_law_1068 : decode cL_law 1068 = .ok (.iload_n 3, 1) := by decide +kernel
theorem dL_law_1069 : decode cL_law 1069 = .ok (.iconst 2, 1) := by decide +kernel
theorem dL_law_1070 : decode cL_law 1070 = .ok (.iadd, 1) := by decide +kernel
theorem dL_law_1071 : decode cL_law 1071 = .ok (.iaload, 1) := by decide +kernel
theorem dL_law_1072 : decode cL_law 1072 = .ok (.aload_n 0, 1) := by decide +kernel
theorem dL_law_1073 : decode cL_law 1073 = .ok (.iload_n 3, 1) := by decide +kernel
theorem dL_law_1074 : decode cL_law 1074 = .ok (.iconst 3, 1) := by decide +kernel
theorem dL_law_1075 : decode cL_law 1075 = .ok (.iadd, 1) := by decide +kernel
theorem dL_law_1076 : decode cL_law 1076 = .ok (.iaload, 1) := by decide +kernel
theorem dL_law_1077 : decode cL_law 1077 = .ok (.invokevirtual 114, 3) := by decide +kernel
theorem dL_law_1080 : decode cL_law 1080 = .ok (.pop, 1) := by decide +kernel
theorem dL_law_1081 : decode cL_law 1081 = .ok (.goto 1384, 3) := by decide +kernel
theorem dL_law_1084 : decode cL_law 1084 = .ok (.aload_n 1, 1) := by decide +kernel
theorem dL_law_1085 : decode cL_law 1085 = .ok (.aload_n 0, 1) := by decide +kernel
theorem dL_law_1086 : decode cL_law 1086 = .ok (.iload_n 3, 1) := by decide +kernel
theorem dL_law_1087 : decode cL_law 1087 = .ok (.iconst 1, 1) := by decide +kernel
theorem dL_law_1088 : decode cL_law 1088 = .ok (.iadd, 1) := by decide +kernel
theorem dL_law_1089 : decode cL_law 1089 = .ok (.iaload, 1) := by decide +kernel
theorem dL_law_1090 : decode cL_law 1090 = .ok (.invokevirtual 115, 3) := by decide +kernel
theorem dL_law_1093 : decode cL_law 1093 = .ok (.pop, 1) := by decide +kernel
theorem dL_law_1094 : decode cL_law 1094 = .ok (.aload_n 2, 1) := by decide +kernel
theorem dL_law_1095 : decode cL_law 1095 = .ok (.aload_n 0, 1) := by decide +kernel
theorem dL_law_1096 : decode cL_law 1096 = .ok (.iload_n 3, 1) := by decide +kernel
theorem dL_law_1097 : decode cL_law 1097 = .ok (.iconst 1, 1) := by decide +kernel
theorem dL_law_1098 : decode cL_law 1098 = .ok (.iadd, 1) := by decide +kernel
theorem dL_law_1099 : decode cL_law 1099 = .ok (.iaload, 1) := by decide +kernel
theorem dL_law_1100 : decode cL_law 1100 = .ok (.invokevirtual 118, 3) := by decide +kernel
theorem dL_law_1103 : decode cL_law 1103 = .ok (.pop, 1) := by decide +kernel
theorem dL_law_1104 : decode cL_law 1104 = .ok (.goto 1361, 3) := by decide +kernel
theorem dL_law_1107 : decode cL_law 1107 = .ok (.aload_n 1, 1) := by decide +kernel
theorem dL_law_1108 : decode cL_law 1108 = .ok (.aload_n 0, 1) := by decide +kernel
theorem dL_law_1109 : decode cL_law 1109 = .ok (.iload_n 3, 1) := by decide +kernel
theorem dL_law_1110 : decode cL_law 1110 = .ok (.iconst 1, 1) := by decide +kernel
theorem dL_law_1111 : decode cL_law 1111 = .ok (.iadd, 1) := by decide +kernel
theorem dL_law_1112 : decode cL_law 1112 = .ok (.iaload, 1) := by decide +kernel
theorem dL_law_1113 : decode cL_law 1113 = .ok (.invokevirtual 119, 3) := by decide +kernel
theorem dL_law_1116 : decode cL_law 1116 = .ok (.pop, 1) := by decide +kernel
theorem dL_law_1117 : decode cL_law 1117 = .ok (.aload_n 2, 1) := by decide +kernel
theorem dL_law_1118 : decode cL_law 1118 = .ok (.aload_n 0, 1) := by decide +kernel
theorem dL_law_1119 : decode cL_law 1119 = .ok (.iload_n 3, 1) := by decide +kernel
theorem dL_law_1120 : decode cL_law 1120 = .ok (.iconst 1, 1) := by decide +kernel
theorem dL_law_1121 : decode cL_law 1121 = .ok (.iadd, 1) := by decide +kernel
theorem dL_law_1122 : decode cL_law 1122 = .ok (.iaload, 1) := by decide +kernel
theorem dL_law_1123 : decode cL_law 1123 = .ok (.invokevirtual 122, 3) := by decide +kernel
theorem dL_law_1126 : decode cL_law 1126 = .ok (.pop, 1) := by decide +kernel
theorem dL_law_1127 : decode cL_law 1127 = .ok (.goto 1338, 3) := by decide +kernel
theorem dL_law_1130 : decode cL_law 1130 = .ok (.aload_n 1, 1) := by decide +kernel
theorem dL_law_1131 : decode cL_law 1131 = .ok (.aload_n 0, 1) := by decide +kernel
theorem dL_law_1132 : decode cL_law 1132 = .ok (.iload_n 3, 1) := by decide +kernel
theorem dL_law_1133 : decode cL_law 1133 = .ok (.iconst 1, 1) := by decide +kernel
theorem dL_law_1134 : decode cL_law 1134 = .ok (.iadd, 1) := by decide +kernel
theorem dL_law_1135 : decode cL_law 1135 = .ok (.iaload, 1) := by decide +kernel
theorem dL_law_1136 : decode cL_law 1136 = .ok (.aload_n 0, 1) := by decide +kernel
theorem dL_law_1137 : decode cL_law 1137 = .ok (.iload_n 3, 1) := by decide +kernel
theorem dL_law_1138 : decode cL_law 1138 = .ok (.iconst 2, 1) := by decide +kernel
theorem dL_law_1139 : decode cL_law 1139 = .ok (.iadd, 1) := by decide +kernel
theorem dL_law_1140 : decode cL_law 1140 = .ok (.iaload, 1) := by decide +kernel
theorem dL_law_1141 : decode cL_law 1141 = .ok (.invokevirtual 123, 3) := by decide +kernel
theorem dL_law_1144 : decode cL_law 1144 = .ok (.pop, 1) := by decide +kernel
theorem dL_law_1145 : decode cL_law 1145 = .ok (.aload_n 2, 1) := by decide +kernel
theorem dL_law_1146 : decode cL_law 1146 = .ok (.aload_n 0, 1) := by decide +kernel
theorem dL_law_1147 : decode cL_law 1147 = .ok (.iload_n 3, 1) := by decide +kernel
theorem dL_law_1148 : decode cL_law 1148 = .ok (.iconst 1, 1) := by decide +kernel
theorem dL_law_1149 : decode cL_law 1149 = .ok (.iadd, 1) := by decide +kernel
theorem dL_law_1150 : decode cL_law 1150 = .ok (.iaload, 1) := by decide +kernel
theorem dL_law_1151 : decode cL_law 1151 = .ok (.aload_n 0, 1) := by decide +kernel
theorem dL_law_1152 : decode cL_law 1152 = .ok (.iload_n 3, 1) := by decide +kernel
theorem dL_law_1153 : decode cL_law 1153 = .ok (.iconst 2, 1) := by decide +kernel
theorem dL_law_1154 : decode cL_law 1154 = .ok (.iadd, 1) := by decide +kernel
theorem dL_law_1155 : decode cL_law 1155 = .ok (.iaload, 1) := by decide +kernel
theorem dL_law_1156 : decode cL_law 1156 = .ok (.invokevirtual 126, 3) := by decide +kernel
theorem dL_law_1159 : decode cL_law 1159 = .ok (.pop, 1) := by decide +kernel
theorem dL_law_1160 : decode cL_law 1160 = .ok (.goto 1305, 3) := by decide +kernel
theorem dL_law_1163 : decode cL_law 1163 = .ok (.aload_n 1, 1) := by decide +kernel
theorem dL_law_1164 : decode cL_law 1164 = .ok (.aload_n 0, 1) := by decide +kernel
theorem dL_law_1165 : decode cL_law 1165 = .ok (.iload_n 3, 1) := by decide +kernel
theorem dL_law_1166 : decode cL_law 1166 = .ok (.iconst 1, 1) := by decide +kernel
theorem dL_law_1167 : decode cL_law 1167 = .ok (.iadd, 1) := by decide +kernel
theorem dL_law_1168 : decode cL_law 1168 = .ok (.iaload, 1) := by decide +kernel
theorem dL_law_1169 : decode cL_law 1169 = .ok (.invokevirtual 127, 3) := by decide +kernel
theorem dL_law_1172 : decode cL_law 1172 = .ok (.pop, 1) := by decide +kernel
theorem dL_law_1173 : decode cL_law 1173 = .ok (.aload_n 2, 1) := by decide +kernel
theorem dL_law_1174 : decode cL_law 1174 = .ok (.aload_n 0, 1) := by decide +kernel
theorem dL_law_1175 : decode cL_law 1175 = .ok (.iload_n 3, 1) := by decide +kernel
theorem dL_law_1176 : decode cL_law 1176 = .ok (.iconst 1, 1) := by decide +kernel
theorem dL_law_1177 : decode cL_law 1177 = .ok (.iadd, 1) := by decide +kernel
theorem dL_law_1178 : decode cL_law 1178 = .ok (.iaload, 1) := by decide +kernel
theorem dL_law_1179 : decode cL_law 1179 = .ok (.invokevirtual 130, 3) := by decide +kernel
theorem dL_law_1182 : decode cL_law 1182 = .ok (.pop, 1) := by decide +kernel
theorem dL_law_1183 : decode cL_law 1183 = .ok (.goto 1282, 3) := by decide +kernel
theorem dL_law_1186 : decode cL_law 1186 = .ok (.aload_n 1, 1) := by decide +kernel
theorem dL_law_1187 : decode cL_law 1187 = .ok (.aload_n 0, 1) := by decide +kernel
theorem dL_law_1188 : decode cL_law 1188 = .ok (.iload_n 3, 1) := by decide +kernel
theorem dL_law_1189 : decode cL_law 1189 = .ok (.iconst 1, 1) := by decide +kernel
theorem dL_law_1190 : decode cL_law 1190 = .ok (.iadd, 1) := by decide +kernel
theorem dL_law_1191 : decode cL_law 1191 = .ok (.iaload, 1) := by decide +kernel
theorem dL_law_1192 : decode cL_law 1192 = .ok (.aload_n 0, 1) := by decide +kernel
theorem dL_law_1193 : decode cL_law 1193 = .ok (.iload_n 3, 1) := by decide +kernel
theorem dL_law_1194 : decode cL_law 1194 = .ok (.iconst 2, 1) := by decide +kernel
theorem dL_law_1195 : decode cL_law 1195 = .ok (.iadd, 1) := by decide +kernel
theorem dL_law_1196 : decode cL_law 1196 = .ok (.iaload, 1) := by decide +kernel
theorem dL_law_1197 : decode cL_law 1197 = .ok (.invokevirtual 131, 3) := by decide +kernel
theorem dL_law_1200 : decode cL_law 1200 = .ok (.pop, 1) := by decide +kernel
theorem dL_law_1201 : decode cL_law 1201 = .ok (.aload_n 2, 1) := by decide +kernel
theorem dL_law_1202 : decode cL_law 1202 = .ok (.aload_n 0, 1) := by decide +kernel
theorem dL_law_1203 : decode cL_law 1203 = .ok (.iload_n 3, 1) := by decide +kernel
theorem dL_law_1204 : decode cL_law 1204 = .ok (.iconst 1, 1) := by decide +kernel
theorem dL_law_1205 : decode cL_law 1205 = .ok (.iadd, 1) := by decide +kernel
theorem dL_law_1206 : decode cL_law 1206 = .ok (.iaload, 1) := by decide +kernel
theorem dL_law_1207 : decode cL_law 1207 = .ok (.aload_n 0, 1) := by decide +kernel
theorem dL_law_1208 : decode cL_law 1208 = .ok (.iload_n 3, 1) := by decide +kernel
theorem dL_law_1209 : decode cL_law 1209 = .ok (.iconst 2, 1) := by decide +kernel
theorem dL_law_1210 : decode cL_law 1210 = .ok (.iadd, 1) := by decide +kernel
theorem dL_law_1211 : decode cL_law 1211 = .ok (.iaload, 1) := by decide +kernel
theorem dL_law_1212 : decode cL_law 1212 = .ok (.invokevirtual 134, 3) := by decide +kernel
theorem dL_law_1215 : decode cL_law 1215 = .ok (.pop, 1) := by decide +kernel
theorem dL_law_1216 : decode cL_law 1216 = .ok (.goto 1249, 3) := by decide +kernel
theorem dL_law_1219 : decode cL_law 1219 = .ok (.aload_n 1, 1) := by decide +kernel
theorem dL_law_1220 : decode cL_law 1220 = .ok (.aload_n 0, 1) := by decide +kernel
theorem dL_law_1221 : decode cL_law 1221 = .ok (.iload_n 3, 1) := by decide +kernel
theorem dL_law_1222 : decode cL_law 1222 = .ok (.iconst 1, 1) := by decide +kernel
theorem dL_law_1223 : decode cL_law 1223 = .ok (.iadd, 1) := by decide +kernel
theorem dL_law_1224 : decode cL_law 1224 = .ok (.iaload, 1) := by decide +kernel
theorem dL_law_1225 : decode cL_law 1225 = .ok (.invokevirtual 135, 3) := by decide +kernel
theorem dL_law_1228 : decode cL_law 1228 = .ok (.pop, 1) := by decide +kernel
theorem dL_law_1229 : decode cL_law 1229 = .ok (.aload_n 2, 1) := by decide +kernel
theorem dL_law_1230 : decode cL_law 1230 = .ok (.aload_n 0, 1) := by decide +kernel
theorem dL_law_1231 : decode cL_law 1231 = .ok (.iload_n 3, 1) := by decide +kernel
theorem dL_law_1232 : decode cL_law 1232 = .ok (.iconst 1, 1) := by decide +kernel
theorem dL_law_1233 : decode cL_law 1233 = .ok (.iadd, 1) := by decide +kernel
theorem dL_law_1234 : decode cL_law 1234 = .ok (.iaload, 1) := by decide +kernel
theorem dL_law_1235 : decode cL_law 1235 = .ok (.invokevirtual 138, 3) := by decide +kernel
theorem dL_law_1238 : decode cL_law 1238 = .ok (.pop, 1) := by decide +kernel
theorem dL_law_1239 : decode cL_law 1239 = .ok (.goto 1226, 3) := by decide +kernel
theorem dL_law_1242 : decode cL_law 1242 = .ok (.aload_n 1, 1) := by decide +kernel
theorem dL_law_1243 : decode cL_law 1243 = .ok (.aload_n 0, 1) := by decide +kernel
theorem dL_law_1244 : decode cL_law 1244 = .ok (.iload_n 3, 1) := by decide +kernel
theorem dL_law_1245 : decode cL_law 1245 = .ok (.iconst 1, 1) := by decide +kernel
theorem dL_law_1246 : decode cL_law 1246 = .ok (.iadd, 1) := by decide +kernel
theorem dL_law_1247 : decode cL_law 1247 = .ok (.iaload, 1) := by decide +kernel
theorem dL_law_1248 : decode cL_law 1248 = .ok (.aload_n 0, 1) := by decide +kernel
theorem dL_law_1249 : decode cL_law 1249 = .ok (.iload_n 3, 1) := by decide +kernel
theorem dL_law_1250 : decode cL_law 1250 = .ok (.iconst 2, 1) := by decide +kernel
theorem dL_law_1251 : decode cL_law 1251 = .ok (.iadd, 1) := by decide +kernel
theorem dL_law_1252 : decode cL_law 1252 = .ok (.iaload, 1) := by decide +kernel
theorem dL_law_1253 : decode cL_law 1253 = .ok (.invokevirtual 139, 3) := by decide +kernel
theorem dL_law_1256 : decode cL_law 1256 = .ok (.pop, 1) := by decide +kernel
theorem dL_law_1257 : decode cL_law 1257 = .ok (.aload_n 2, 1) := by decide +kernel
theorem dL_law_1258 : decode cL_law 1258 = .ok (.aload_n 0, 1) := by decide +kernel
theorem dL_law_1259 : decode cL_law 1259 = .ok (.iload_n 3, 1) := by decide +kernel
theorem dL_law_1260 : decode cL_law 1260 = .ok (.iconst 1, 1) := by decide +kernel
theorem dL_law_1261 : decode cL_law 1261 = .ok (.iadd, 1) := by decide +kernel
theorem dL_law_1262 : decode cL_law 1262 = .ok (.iaload, 1) := by decide +kernel
theorem dL_law_1263 : decode cL_law 1263 = .ok (.aload_n 0, 1) := by decide +kernel
theorem dL_law_1264 : decode cL_law 1264 = .ok (.iload_n 3, 1) := by decide +kernel
theorem dL_law_1265 : decode cL_law 1265 = .ok (.iconst 2, 1) := by decide +kernel
theorem dL_law_1266 : decode cL_law 1266 = .ok (.iadd, 1) := by decide +kernel
theorem dL_law_1267 : decode cL_law 1267 = .ok (.iaload, 1) := by decide +kernel
theorem dL_law_1268 : decode cL_law 1268 = .ok (.invokevirtual 142, 3) := by decide +kernel
theorem dL_law_1271 : decode cL_law 1271 = .ok (.pop, 1) := by decide +kernel
theorem dL_law_1272 : decode cL_law 1272 = .ok (.goto 1193, 3) := by decide +kernel
theorem dL_law_1275 : decode cL_law 1275 = .ok (.aload_n 1, 1) := by decide +kernel
theorem dL_law_1276 : decode cL_law 1276 = .ok (.aload_n 0, 1) := by decide +kernel
theorem dL_law_1277 : decode cL_law 1277 = .ok (.iload_n 3, 1) := by decide +kernel
theorem dL_law_1278 : decode cL_law 1278 = .ok (.iconst 1, 1) := by decide +kernel
theorem dL_law_1279 : decode cL_law 1279 = .ok (.iadd, 1) := by decide +kernel
theorem dL_law_1280 : decode cL_law 1280 = .ok (.iaload, 1) := by decide +kernel
theorem dL_law_1281 : decode cL_law 1281 = .ok (.invokevirtual 143, 3) := by decide +kernel
theorem dL_law_1284 : decode cL_law 1284 = .ok (.pop, 1) := by decide +kernel
theorem dL_law_1285 : decode cL_law 1285 = .ok (.aload_n 2, 1) := by decide +kernel
theorem dL_law_1286 : decode cL_law 1286 = .ok (.aload_n 0, 1) := by decide +kernel
theorem dL_law_1287 : decode cL_law 1287 = .ok (.iload_n 3, 1) := by decide +kernel
theorem dL_law_1288 : decode cL_law 1288 = .ok (.iconst 1, 1) := by decide +kernel
theorem dL_law_1289 : decode cL_law 1289 = .ok (.iadd, 1) := by decide +kernel
theorem dL_law_1290 : decode cL_law 1290 = .ok (.iaload, 1) := by decide +kernel
theorem dL_law_1291 : decode cL_law 1291 = .ok (.invokevirtual 146, 3) := by decide +kernel
theorem dL_law_1294 : decode cL_law 1294 = .ok (.pop, 1) := by decide +kernel
theorem dL_law_1295 : decode cL_law 1295 = .ok (.goto 1170, 3) := by decide +kernel
theorem dL_law_1298 : decode cL_law 1298 = .ok (.aload_n 1, 1) := by decide +kernel
theorem dL_law_1299 : decode cL_law 1299 = .ok (.aload_n 0, 1) := by decide +kernel
theorem dL_law_1300 : decode cL_law 1300 = .ok (.iload_n 3, 1) := by decide +kernel
theorem dL_law_1301 : decode cL_law 1301 = .ok (.iconst 1, 1) := by decide +kernel
theorem dL_law_1302 : decode cL_law 1302 = .ok (.iadd, 1) := by decide +kernel
theorem dL_law_1303 : decode cL_law 1303 = .ok (.iaload, 1) := by decide +kernel
theorem dL_law_1304 : decode cL_law 1304 = .ok (.aload_n 0, 1) := by decide +kernel
theorem dL_law_1305 : decode cL_law 1305 = .ok (.iload_n 3, 1) := by decide +kernel
theorem dL_law_1306 : decode cL_law 1306 = .ok (.iconst 2, 1) := by decide +kernel
theorem dL_law_1307 : decode cL_law 1307 = .ok (.iadd, 1) := by decide +kernel
theorem dL_law_1308 : decode cL_law 1308 = .ok (.iaload, 1) := by decide +kernel
theorem dL_law_1309 : decode cL_law 1309 = .ok (.invokevirtual 147, 3) := by decide +kernel
theorem dL_law_1312 : decode cL_law 1312 = .ok (.pop, 1) := by decide +kernel
theorem dL_law_1313 : decode cL_law 1313 = .ok (.aload_n 2, 1) := by decide +kernel
theorem dL_law_1314 : decode cL_law 1314 = .ok (.aload_n 0, 1) := by decide +kernel
theorem dL_law_1315 : decode cL_law 1315 = .ok (.iload_n 3, 1) := by decide +kernel
theorem dL_law_1316 : decode cL_law 1316 = .ok (.iconst 1, 1) := by decide +kernel
theorem dL_law_1317 : decode cL_law 1317 = .ok (.iadd, 1) := by decide +kernel
theorem dL_law_1318 : decode cL_law 1318 = .ok (.iaload, 1) := by decide +kernel
theorem dL_law_1319 : decode cL_law 1319 = .ok (.aload_n 0, 1) := by decide +kernel
theorem dL_law_1320 : decode cL_law 1320 = .ok (.iload_n 3, 1) := by decide +kernel
theorem dL_law_1321 : decode cL_law 1321 = .ok (.iconst 2, 1) := by decide +kernel
theorem dL_law_1322 : decode cL_law 1322 = .ok (.iadd, 1) := by decide +kernel
theorem dL_law_1323 : decode cL_law 1323 = .ok (.iaload, 1) := by decide +kernel
theorem dL_law_1324 : decode cL_law 1324 = .ok (.invokevirtual 150, 3) := by decide +kernel
theorem dL_law_1327 : decode cL_law 1327 = .ok (.pop, 1) := by decide +kernel
theorem dL_law_1328 : decode cL_law 1328 = .ok (.goto 1137, 3) := by decide +kernel
theorem dL_law_1331 : decode cL_law 1331 = .ok (.aload_n 1, 1) := by decide +kernel
theorem dL_law_1332 : decode cL_law 1332 = .ok (.aload_n 0, 1) := by decide +kernel
theorem dL_law_1333 : decode cL_law 1333 = .ok (.iload_n 3, 1) := by decide +kernel
theorem dL_law_1334 : decode cL_law 1334 = .ok (.iconst 1, 1) := by decide +kernel
theorem dL_law_1335 : decode cL_law 1335 = .ok (.iadd, 1) := by decide +kernel
theorem dL_law_1336 : decode cL_law 1336 = .ok (.iaload, 1) := by decide +kernel
theorem dL_law_1337 : decode cL_law 1337 = .ok (.aload_n 0, 1) := by decide +kernel
theorem dL_law_1338 : decode cL_law 1338 = .ok (.iload_n 3, 1) := by decide +kernel
theorem dL_law_1339 : decode cL_law 1339 = .ok (.iconst 2, 1) := by decide +kernel
theorem dL_law_1340 : decode cL_law 1340 = .ok (.iadd, 1) := by decide +kernel
theorem dL_law_1341 : decode cL_law 1341 = .ok (.iaload, 1) := by decide +kernel
theorem dL_law_1342 : decode cL_law 1342 = .ok (.aload_n 0, 1) := by decide +kernel
theorem dL_law_1343 : decode cL_law 1343 = .ok (.iload_n 3, 1) := by decide +kernel
theorem dL_law_1344 : decode cL_law 1344 = .ok (.iconst 3, 1) := by decide +kernel
theorem dL_law_1345 : decode cL_law 1345 = .ok (.iadd, 1) := by decide +kernel
theorem dL_law_1346 : decode cL_law 1346 = .ok (.iaload, 1) := by decide +kernel
theorem dL_law_1347 : decode cL_law 1347 = .ok (.aload_n 0, 1) := by decide +kernel
theorem dL_law_1348 : decode cL_law 1348 = .ok (.iload_n 3, 1) := by decide +kernel
theorem dL_law_1349 : decode cL_law 1349 = .ok (.iconst 4, 1) := by decide +kernel
theorem dL_law_1350 : decode cL_law 1350 = .ok (.iadd, 1) := by decide +kernel
theorem dL_law_1351 : decode cL_law 1351 = .ok (.iaload, 1) := by decide +kernel
theorem dL_law_1352 : decode cL_law 1352 = .ok (.invokevirtual 151, 3) := by decide +kernel
theorem dL_law_1355 : decode cL_law 1355 = .ok (.pop, 1) := by decide +kernel
theorem dL_law_1356 : decode cL_law 1356 = .ok (.aload_n 2, 1) := by decide +kernel
theorem dL_law_1357 : decode cL_law 1357 = .ok (.aload_n 0, 1) := by decide +kernel
theorem dL_law_1358 : decode cL_law 1358 = .ok (.iload_n 3, 1) := by decide +kernel
theorem dL_law_1359 : decode cL_law 1359 = .ok (.iconst 1, 1) := by decide +kernel
theorem dL_law_1360 : decode cL_law 1360 = .ok (.iadd, 1) := by decide +kernel
theorem dL_law_1361 : decode cL_law 1361 = .ok (.iaload, 1) := by decide +kernel
theorem dL_law_1362 : decode cL_law 1362 = .ok (.aload_n 0, 1) := by decide +kernel
theorem dL_law_1363 : decode cL_law 1363 = .ok (.iload_n 3, 1) := by decide +kernel
theorem dL_law_1364 : decode cL_law 1364 = .ok (.iconst 2, 1) := by decide +kernel
theorem dL_law_1365 : decode cL_law 1365 = .ok (.iadd, 1) := by decide +kernel
theorem dL_law_1366 : decode cL_law 1366 = .ok (.iaload, 1) := by decide +kernel
theorem dL_law_1367 : decode cL_law 1367 = .ok (.aload_n 0, 1) := by decide +kernel
theorem dL_law_1368 : decode cL_law 1368 = .ok (.iload_n 3, 1) := by decide +kernel
theorem dL_law_1369 : decode cL_law 1369 = .ok (.iconst 3, 1) := by decide +kernel
theorem dL_law_1370 : decode cL_law 1370 = .ok (.iadd, 1) := by decide +kernel
theorem dL_law_1371 : decode cL_law 1371 = .ok (.iaload, 1) := by decide +kernel
theorem dL_law_1372 : decode cL_law 1372 = .ok (.aload_n 0, 1) := by decide +kernel
theorem dL_law_1373 : decode cL_law 1373 = .ok (.iload_n 3, 1) := by decide +kernel
theorem dL_law_1374 : decode cL_law 1374 = .ok (.iconst 4, 1) := by decide +kernel
theorem dL_law_1375 : decode cL_law 1375 = .ok (.iadd, 1) := by decide +kernel
theorem dL_law_1376 : decode cL_law 1376 = .ok (.iaload, 1) := by decide +kernel
theorem dL_law_1377 : decode cL_law 1377 = .ok (.invokevirtual 154, 3) := by decide +kernel
theorem dL_law_1380 : decode cL_law 1380 = .ok (.pop, 1) := by decide +kernel
theorem dL_law_1381 : decode cL_law 1381 = .ok (.goto 1084, 3) := by decide +kernel
theorem dL_law_1384 : decode cL_law 1384 = .ok (.aload_n 1, 1) := by decide +kernel
theorem dL_law_1385 : decode cL_law 1385 = .ok (.invokevirtual 155, 3) := by decide +kernel
theorem dL_law_1388 : decode cL_law 1388 = .ok (.pop, 1) := by decide +kernel
theorem dL_law_1389 : decode cL_law 1389 = .ok (.aload_n 2, 1) := by decide +kernel
theorem dL_law_1390 : decode cL_law 1390 = .ok (.invokevirtual 158, 3) := by decide +kernel
theorem dL_law_1393 : decode cL_law 1393 = .ok (.pop, 1) := by decide +kernel
theorem dL_law_1394 : decode cL_law 1394 = .ok (.goto 1071, 3) := by decide +kernel
theorem dL_law_1397 : decode cL_law 1397 = .ok (.aload_n 1, 1) := by decide +kernel
theorem dL_law_1398 : decode cL_law 1398 = .ok (.aload_n 0, 1) := by decide +kernel
theorem dL_law_1399 : decode cL_law 1399 = .ok (.iload_n 3, 1) := by decide +kernel
theorem dL_law_1400 : decode cL_law 1400 = .ok (.iconst 1, 1) := by decide +kernel
theorem dL_law_1401 : decode cL_law 1401 = .ok (.iadd, 1) := by decide +kernel
theorem dL_law_1402 : decode cL_law 1402 = .ok (.iaload, 1) := by decide +kernel
theorem dL_law_1403 : decode cL_law 1403 = .ok (.invokevirtual 159, 3) := by decide +kernel
theorem dL_law_1406 : decode cL_law 1406 = .ok (.pop, 1) := by decide +kernel
theorem dL_law_1407 : decode cL_law 1407 = .ok (.aload_n 2, 1) := by decide +kernel
theorem dL_law_1408 : decode cL_law 1408 = .ok (.aload_n 0, 1) := by decide +kernel
theorem dL_law_1409 : decode cL_law 1409 = .ok (.iload_n 3, 1) := by decide +kernel
theorem dL_law_1410 : decode cL_law 1410 = .ok (.iconst 1, 1) := by decide +kernel
theorem dL_law_1411 : decode cL_law 1411 = .ok (.iadd, 1) := by decide +kernel
theorem dL_law_1412 : decode cL_law 1412 = .ok (.iaload, 1) := by decide +kernel
theorem dL_law_1413 : decode cL_law 1413 = .ok (.invokevirtual 162, 3) := by decide +kernel
theorem dL_law_1416 : decode cL_law 1416 = .ok (.pop, 1) := by decide +kernel
theorem dL_law_1417 : decode cL_law 1417 = .ok (.goto 1048, 3) := by decide +kernel
theorem dL_law_1420 : decode cL_law 1420 = .ok (.aload_n 1, 1) := by decide +kernel
theorem dL_law_1421 : decode cL_law 1421 = .ok (.aload_n 0, 1) := by decide +kernel
theorem dL_law_1422 : decode cL_law 1422 = .ok (.iload_n 3, 1) := by decide +kernel
theorem dL_law_1423 : decode cL_law 1423 = .ok (.iconst 1, 1) := by decide +kernel
theorem dL_law_1424 : decode cL_law 1424 = .ok (.iadd, 1) := by decide +kernel
theorem dL_law_1425 : decode cL_law 1425 = .ok (.iaload, 1) := by decide +kernel
theorem dL_law_1426 : decode cL_law 1426 = .ok (.aload_n 0, 1) := by decide +kernel
theorem dL_law_1427 : decode cL_law 1427 = .ok (.iload_n 3, 1) := by decide +kernel
theorem dL_law_1428 : decode cL_law 1428 = .ok (.iconst 2, 1) := by decide +kernel
theorem dL_law_1429 : decode cL_law 1429 = .ok (.iadd, 1) := by decide +kernel
theorem dL_law_1430 : decode cL_law 1430 = .ok (.iaload, 1) := by decide +kernel
theorem dL_law_1431 : decode cL_law 1431 = .ok (.invokevirtual 163, 3) := by decide +kernel
theorem dL_law_1434 : decode cL_law 1434 = .ok (.pop, 1) := by decide +kernel
theorem dL_law_1435 : decode cL_law 1435 = .ok (.aload_n 2, 1) := by decide +kernel
theorem dL_law_1436 : decode cL_law 1436 = .ok (.aload_n 0, 1) := by decide +kernel
theorem dL_law_1437 : decode cL_law 1437 = .ok (.iload_n 3, 1) := by decide +kernel
theorem dL_law_1438 : decode cL_law 1438 = .ok (.iconst 1, 1) := by decide +kernel
theorem dL_law_1439 : decode cL_law 1439 = .ok (.iadd, 1) := by decide +kernel
theorem dL_law_1440 : decode cL_law 1440 = .ok (.iaload, 1) := by decide +kernel
theorem dL_law_1441 : decode cL_law 1441 = .ok (.aload_n 0, 1) := by decide +kernel
theorem dL_law_1442 : decode cL_law 1442 = .ok (.iload_n 3, 1) := by decide +kernel
theorem dL_law_1443 : decode cL_law 1443 = .ok (.iconst 2, 1) := by decide +kernel
theorem dL_law_1444 : decode cL_law 1444 = .ok (.iadd, 1) := by decide +kernel
theorem dL_law_1445 : decode cL_law 1445 = .ok (.iaload, 1) := by decide +kernel
theorem dL_law_1446 : decode cL_law 1446 = .ok (.invokevirtual 166, 3) := by decide +kernel
theorem dL_law_1449 : decode cL_law 1449 = .ok (.pop, 1) := by decide +kernel
theorem dL_law_1450 : decode cL_law 1450 = .ok (.goto 1015, 3) := by decide +kernel
theorem dL_law_1453 : decode cL_law 1453 = .ok (.aload_n 1, 1) := by decide +kernel
theorem dL_law_1454 : decode cL_law 1454 = .ok (.aload_n 0, 1) := by decide +kernel
theorem dL_law_1455 : decode cL_law 1455 = .ok (.iload_n 3, 1) := by decide +kernel
theorem dL_law_1456 : decode cL_law 1456 = .ok (.iconst 1, 1) := by decide +kernel
theorem dL_law_1457 : decode cL_law 1457 = .ok (.iadd, 1) := by decide +kernel
theorem dL_law_1458 : decode cL_law 1458 = .ok (.iaload, 1) := by decide +kernel
theorem dL_law_1459 : decode cL_law 1459 = .ok (.aload_n 0, 1) := by decide +kernel
theorem dL_law_1460 : decode cL_law 1460 = .ok (.iload_n 3, 1) := by decide +kernel
theorem dL_law_1461 : decode cL_law 1461 = .ok (.iconst 2, 1) := by decide +kernel
theorem dL_law_1462 : decode cL_law 1462 = .ok (.iadd, 1) := by decide +kernel
theorem dL_law_1463 : decode cL_law 1463 = .ok (.iaload, 1) := by decide +kernel
theorem dL_law_1464 : decode cL_law 1464 = .ok (.invokevirtual 167, 3) := by decide +kernel
theorem dL_law_1467 : decode cL_law 1467 = .ok (.pop, 1) := by decide +kernel
theorem dL_law_1468 : decode cL_law 1468 = .ok (.aload_n 2, 1) := by decide +kernel
theorem dL_law_1469 : decode cL_law 1469 = .ok (.aload_n 0, 1) := by decide +kernel
theorem dL_law_1470 : decode cL_law 1470 = .ok (.iload_n 3, 1) := by decide +kernel
theorem dL_law_1471 : decode cL_law 1471 = .ok (.iconst 1, 1) := by decide +kernel
theorem dL_law_1472 : decode cL_law 1472 = .ok (.iadd, 1) := by decide +kernel
theorem dL_law_1473 : decode cL_law 1473 = .ok (.iaload, 1) := by decide +kernel
theorem dL_law_1474 : decode cL_law 1474 = .ok (.aload_n 0, 1) := by decide +kernel
theorem dL_law_1475 : decode cL_law 1475 = .ok (.iload_n 3, 1) := by decide +kernel
theorem dL_law_1476 : decode cL_law 1476 = .ok (.iconst 2, 1) := by decide +kernel
theorem dL_law_1477 : decode cL_law 1477 = .ok (.iadd, 1) := by decide +kernel
theorem dL_law_1478 : decode cL_law 1478 = .ok (.iaload, 1) := by decide +kernel
theorem dL_law_1479 : decode cL_law 1479 = .ok (.invokevirtual 170, 3) := by decide +kernel
theorem dL_law_1482 : decode cL_law 1482 = .ok (.pop, 1) := by decide +kernel
theorem dL_law_1483 : decode cL_law 1483 = .ok (.goto 982, 3) := by decide +kernel
theorem dL_law_1486 : decode cL_law 1486 = .ok (.aload_n 1, 1) := by decide +kernel
theorem dL_law_1487 : decode cL_law 1487 = .ok (.aload_n 0, 1) := by decide +kernel
theorem dL_law_1488 : decode cL_law 1488 = .ok (.iload_n 3, 1) := by decide +kernel
theorem dL_law_1489 : decode cL_law 1489 = .ok (.iconst 1, 1) := by decide +kernel
theorem dL_law_1490 : decode cL_law 1490 = .ok (.iadd, 1) := by decide +kernel
theorem dL_law_1491 : decode cL_law 1491 = .ok (.iaload, 1) := by decide +kernel
theorem dL_law_1492 : decode cL_law 1492 = .ok (.invokevirtual 171, 3) := by decide +kernel
theorem dL_law_1495 : decode cL_law 1495 = .ok (.pop, 1) := by decide +kernel
theorem dL_law_1496 : decode cL_law 1496 = .ok (.aload_n 2, 1) := by decide +kernel
theorem dL_law_1497 : decode cL_law 1497 = .ok (.aload_n 0, 1) := by decide +kernel
theorem dL_law_1498 : decode cL_law 1498 = .ok (.iload_n 3, 1) := by decide +kernel
theorem dL_law_1499 : decode cL_law 1499 = .ok (.iconst 1, 1) := by decide +kernel
theorem dL_law_1500 : decode cL_law 1500 = .ok (.iadd, 1) := by decide +kernel
theorem dL_law_1501 : decode cL_law 1501 = .ok (.iaload, 1) := by decide +kernel
theorem dL_law_1502 : decode cL_law 1502 = .ok (.invokevirtual 174, 3) := by decide +kernel
theorem dL_law_1505 : decode cL_law 1505 = .ok (.pop, 1) := by decide +kernel
theorem dL_law_1506 : decode cL_law 1506 = .ok (.goto 959, 3) := by decide +kernel
theorem dL_law_1509 : decode cL_law 1509 = .ok (.aload_n 1, 1) := by decide +kernel
theorem dL_law_1510 : decode cL_law 1510 = .ok (.invokevirtual 175, 3) := by decide +kernel
theorem dL_law_1513 : decode cL_law 1513 = .ok (.pop, 1) := by decide +kernel
theorem dL_law_1514 : decode cL_law 1514 = .ok (.aload_n 2, 1) := by decide +kernel
theorem dL_law_1515 : decode cL_law 1515 = .ok (.invokevirtual 178, 3) := by decide +kernel
theorem dL_law_1518 : decode cL_law 1518 = .ok (.pop, 1) := by decide +kernel
theorem dL_law_1519 : decode cL_law 1519 = .ok (.goto 946, 3) := by decide +kernel
theorem dL_law_1522 : decode cL_law 1522 = .ok (.aload_n 1, 1) := by decide +kernel
theorem dL_law_1523 : decode cL_law 1523 = .ok (.invokevirtual 179, 3) := by decide +kernel
theorem dL_law_1526 : decode cL_law 1526 = .ok (.pop, 1) := by decide +kernel
theorem dL_law_1527 : decode cL_law 1527 = .ok (.aload_n 2, 1) := by decide +kernel
theorem dL_law_1528 : decode cL_law 1528 = .ok (.invokevirtual 182, 3) := by decide +kernel
theorem dL_law_1531 : decode cL_law 1531 = .ok (.pop, 1) := by decide +kernel
theorem dL_law_1532 : decode cL_law 1532 = .ok (.goto 933, 3) := by decide +kernel
theorem dL_law_1535 : decode cL_law 1535 = .ok (.aload_n 1, 1) := by decide +kernel
theorem dL_law_1536 : decode cL_law 1536 = .ok (.aload_n 0, 1) := by decide +kernel
theorem dL_law_1537 : decode cL_law 1537 = .ok (.iload_n 3, 1) := by decide +kernel
theorem dL_law_1538 : decode cL_law 1538 = .ok (.iconst 1, 1) := by decide +kernel
theorem dL_law_1539 : decode cL_law 1539 = .ok (.iadd, 1) := by decide +kernel
theorem dL_law_1540 : decode cL_law 1540 = .ok (.iaload, 1) := by decide +kernel
theorem dL_law_1541 : decode cL_law 1541 = .ok (.invokevirtual 183, 3) := by decide +kernel
theorem dL_law_1544 : decode cL_law 1544 = .ok (.pop, 1) := by decide +kernel
theorem dL_law_1545 : decode cL_law 1545 = .ok (.aload_n 2, 1) := by decide +kernel
theorem dL_law_1546 : decode cL_law 1546 = .ok (.aload_n 0, 1) := by decide +kernel
theorem dL_law_1547 : decode cL_law 1547 = .ok (.iload_n 3, 1) := by decide +kernel
theorem dL_law_1548 : decode cL_law 1548 = .ok (.iconst 1, 1) := by decide +kernel
theorem dL_law_1549 : decode cL_law 1549 = .ok (.iadd, 1) := by decide +kernel
theorem dL_law_1550 : decode cL_law 1550 = .ok (.iaload, 1) := by decide +kernel
theorem dL_law_1551 : decode cL_law 1551 = .ok (.invokevirtual 186, 3) := by decide +kernel
theorem dL_law_1554 : decode cL_law 1554 = .ok (.pop, 1) := by decide +kernel
theorem dL_law_1555 : decode cL_law 1555 = .ok (.goto 910, 3) := by decide +kernel
theorem dL_law_1558 : decode cL_law 1558 = .ok (.aload_n 1, 1) := by decide +kernel
theorem dL_law_1559 : decode cL_law 1559 = .ok (.aload_n 0, 1) := by decide +kernel
theorem dL_law_1560 : decode cL_law 1560 = .ok (.iload_n 3, 1) := by decide +kernel
theorem dL_law_1561 : decode cL_law 1561 = .ok (.iconst 1, 1) := by decide +kernel
theorem dL_law_1562 : decode cL_law 1562 = .ok (.iadd, 1) := by decide +kernel
theorem dL_law_1563 : decode cL_law 1563 = .ok (.iaload, 1) := by decide +kernel
theorem dL_law_1564 : decode cL_law 1564 = .ok (.aload_n 0, 1) := by decide +kernel
theorem dL_law_1565 : decode cL_law 1565 = .ok (.iload_n 3, 1) := by decide +kernel
theorem dL_law_1566 : decode cL_law 1566 = .ok (.iconst 2, 1) := by decide +kernel
theorem dL_law_1567 : decode cL_law 1567 = .ok (.iadd, 1) := by decide +kernel
theorem dL_law_1568 : decode cL_law 1568 = .ok (.iaload, 1) := by decide +kernel
theorem dL_law_1569 : decode cL_law 1569 = .ok (.invokevirtual 187, 3) := by decide +kernel
theorem dL_law_1572 : decode cL_law 1572 = .ok (.pop, 1) := by decide +kernel
theorem dL_law_1573 : decode cL_law 1573 = .ok (.aload_n 2, 1) := by decide +kernel
theorem dL_law_1574 : decode cL_law 1574 = .ok (.aload_n 0, 1) := by decide +kernel
theorem dL_law_1575 : decode cL_law 1575 = .ok (.iload_n 3, 1) := by decide +kernel
theorem dL_law_1576 : decode cL_law 1576 = .ok (.iconst 1, 1) := by decide +kernel
theorem dL_law_1577 : decode cL_law 1577 = .ok (.iadd, 1) := by decide +kernel
theorem dL_law_1578 : decode cL_law 1578 = .ok (.iaload, 1) := by decide +kernel
theorem dL_law_1579 : decode cL_law 1579 = .ok (.aload_n 0, 1) := by decide +kernel
theorem dL_law_1580 : decode cL_law 1580 = .ok (.iload_n 3, 1) := by decide +kernel
theorem dL_law_1581 : decode cL_law 1581 = .ok (.iconst 2, 1) := by decide +kernel
theorem dL_law_1582 : decode cL_law 1582 = .ok (.iadd, 1) := by decide +kernel
theorem dL_law_1583 : decode cL_law 1583 = .ok (.iaload, 1) := by decide +kernel
theorem dL_law_1584 : decode cL_law 1584 = .ok (.invokevirtual 190, 3) := by decide +kernel
theorem dL_law_1587 : decode cL_law 1587 = .ok (.pop, 1) := by decide +kernel
theorem dL_law_1588 : decode cL_law 1588 = .ok (.goto 877, 3) := by decide +kernel
theorem dL_law_1591 : decode cL_law 1591 = .ok (.aload_n 1, 1) := by decide +kernel
theorem dL_law_1592 : decode cL_law 1592 = .ok (.aload_n 0, 1) := by decide +kernel
theorem dL_law_1593 : decode cL_law 1593 = .ok (.iload_n 3, 1) := by decide +kernel
theorem dL_law_1594 : decode cL_law 1594 = .ok (.iconst 1, 1) := by decide +kernel
theorem dL_law_1595 : decode cL_law 1595 = .ok (.iadd, 1) := by decide +kernel
theorem dL_law_1596 : decode cL_law 1596 = .ok (.iaload, 1) := by decide +kernel
theorem dL_law_1597 : decode cL_law 1597 = .ok (.aload_n 0, 1) := by decide +kernel
theorem dL_law_1598 : decode cL_law 1598 = .ok (.iload_n 3, 1) := by decide +kernel
theorem dL_law_1599 : decode cL_law 1599 = .ok (.iconst 2, 1) := by decide +kernel
theorem dL_law_1600 : decode cL_law 1600 = .ok (.iadd, 1) := by decide +kernel
theorem dL_law_1601 : decode cL_law 1601 = .ok (.iaload, 1) := by decide +kernel
theorem dL_law_1602 : decode cL_law 1602 = .ok (.invokevirtual 191, 3) := by decide +kernel
theorem dL_law_1605 : decode cL_law 1605 = .ok (.pop, 1) := by decide +kernel
theorem dL_law_1606 : decode cL_law 1606 = .ok (.aload_n 2, 1) := by decide +kernel
theorem dL_law_1607 : decode cL_law 1607 = .ok (.aload_n 0, 1) := by decide +kernel
theorem dL_law_1608 : decode cL_law 1608 = .ok (.iload_n 3, 1) := by decide +kernel
theorem dL_law_1609 : decode cL_law 1609 = .ok (.iconst 1, 1) := by decide +kernel
theorem dL_law_1610 : decode cL_law 1610 = .ok (.iadd, 1) := by decide +kernel
theorem dL_law_1611 : decode cL_law 1611 = .ok (.iaload, 1) := by decide +kernel
theorem dL_law_1612 : decode cL_law 1612 = .ok (.aload_n 0, 1) := by decide +kernel
theorem dL_law_1613 : decode cL_law 1613 = .ok (.iload_n 3, 1) := by decide +kernel
theorem dL_law_1614 : decode cL_law 1614 = .ok (.iconst 2, 1) := by decide +kernel
theorem dL_law_1615 : decode cL_law 1615 = .ok (.iadd, 1) := by decide +kernel
theorem dL_law_1616 : decode cL_law 1616 = .ok (.iaload, 1) := by decide +kernel
theorem dL_law_1617 : decode cL_law 1617 = .ok (.invokevirtual 194, 3) := by decide +kernel
theorem dL_law_1620 : decode cL_law 1620 = .ok (.pop, 1) := by decide +kernel
theorem dL_law_1621 : decode cL_law 1621 = .ok (.goto 844, 3) := by decide +kernel
theorem dL_law_1624 : decode cL_law 1624 = .ok (.aload_n 1, 1) := by decide +kernel
theorem dL_law_1625 : decode cL_law 1625 = .ok (.aload_n 0, 1) := by decide +kernel
theorem dL_law_1626 : decode cL_law 1626 = .ok (.iload_n 3, 1) := by decide +kernel
theorem dL_law_1627 : decode cL_law 1627 = .ok (.iconst 1, 1) := by decide +kernel
theorem dL_law_1628 : decode cL_law 1628 = .ok (.iadd, 1) := by decide +kernel
theorem dL_law_1629 : decode cL_law 1629 = .ok (.iaload, 1) := by decide +kernel
theorem dL_law_1630 : decode cL_law 1630 = .ok (.invokevirtual 195, 3) := by decide +kernel
theorem dL_law_1633 : decode cL_law 1633 = .ok (.pop, 1) := by decide +kernel
theorem dL_law_1634 : decode cL_law 1634 = .ok (.aload_n 2, 1) := by decide +kernel
theorem dL_law_1635 : decode cL_law 1635 = .ok (.aload_n 0, 1) := by decide +kernel
theorem dL_law_1636 : decode cL_law 1636 = .ok (.iload_n 3, 1) := by decide +kernel
theorem dL_law_1637 : decode cL_law 1637 = .ok (.iconst 1, 1) := by decide +kernel
theorem dL_law_1638 : decode cL_law 1638 = .ok (.iadd, 1) := by decide +kernel
theorem dL_law_1639 : decode cL_law 1639 = .ok (.iaload, 1) := by decide +kernel
theorem dL_law_1640 : decode cL_law 1640 = .ok (.invokevirtual 198, 3) := by decide +kernel
theorem dL_law_1643 : decode cL_law 1643 = .ok (.pop, 1) := by decide +kernel
theorem dL_law_1644 : decode cL_law 1644 = .ok (.goto 821, 3) := by decide +kernel
theorem dL_law_1647 : decode cL_law 1647 = .ok (.aload_n 1, 1) := by decide +kernel
theorem dL_law_1648 : decode cL_law 1648 = .ok (.aload_n 0, 1) := by decide +kernel
theorem dL_law_1649 : decode cL_law 1649 = .ok (.iload_n 3, 1) := by decide +kernel
theorem dL_law_1650 : decode cL_law 1650 = .ok (.iconst 1, 1) := by decide +kernel
theorem dL_law_1651 : decode cL_law 1651 = .ok (.iadd, 1) := by decide +kernel
theorem dL_law_1652 : decode cL_law 1652 = .ok (.iaload, 1) := by decide +kernel
theorem dL_law_1653 : decode cL_law 1653 = .ok (.aload_n 0, 1) := by decide +kernel
theorem dL_law_1654 : decode cL_law 1654 = .ok (.iload_n 3, 1) := by decide +kernel
theorem dL_law_1655 : decode cL_law 1655 = .ok (.iconst 2, 1) := by decide +kernel
theorem dL_law_1656 : decode cL_law 1656 = .ok (.iadd, 1) := by decide +kernel
theorem dL_law_1657 : decode cL_law 1657 = .ok (.iaload, 1) := by decide +kernel
theorem dL_law_1658 : decode cL_law 1658 = .ok (.aload_n 0, 1) := by decide +kernel
theorem dL_law_1659 : decode cL_law 1659 = .ok (.iload_n 3, 1) := by decide +kernel
theorem dL_law_1660 : decode cL_law 1660 = .ok (.iconst 3, 1) := by decide +kernel
theorem dL_law_1661 : decode cL_law 1661 = .ok (.iadd, 1) := by decide +kernel
theorem dL_law_1662 : decode cL_law 1662 = .ok (.iaload, 1) := by decide +kernel
theorem dL_law_1663 : decode cL_law 1663 = .ok (.invokevirtual 199, 3) := by decide +kernel
theorem dL_law_1666 : decode cL_law 1666 = .ok (.pop, 1) := by decide +kernel
theorem dL_law_1667 : decode cL_law 1667 = .ok (.aload_n 2, 1) := by decide +kernel
theorem dL_law_1668 : decode cL_law 1668 = .ok (.aload_n 0, 1) := by decide +kernel
theorem dL_law_1669 : decode cL_law 1669 = .ok (.iload_n 3, 1) := by decide +kernel
theorem dL_law_1670 : decode cL_law 1670 = .ok (.iconst 1, 1) := by decide +kernel
theorem dL_law_1671 : decode cL_law 1671 = .ok (.iadd, 1) := by decide +kernel
theorem dL_law_1672 : decode cL_law 1672 = .ok (.iaload, 1) := by decide +kernel
theorem dL_law_1673 : decode cL_law 1673 = .ok (.aload_n 0, 1) := by decide +kernel
theorem dL_law_1674 : decode cL_law 1674 = .ok (.iload_n 3, 1) := by decide +kernel
theorem dL_law_1675 : decode cL_law 1675 = .ok (.iconst 2, 1) := by decide +kernel
theorem dL_law_1676 : decode cL_law 1676 = .ok (.iadd, 1) := by decide +kernel
theorem dL_law_1677 : decode cL_law 1677 = .ok (.iaload, 1) := by decide +kernel
theorem dL_law_1678 : decode cL_law 1678 = .ok (.aload_n 0, 1) := by decide +kernel
theorem dL_law_1679 : decode cL_law 1679 = .ok (.iload_n 3, 1) := by decide +kernel
theorem dL_law_1680 : decode cL_law 1680 = .ok (.iconst 3, 1) := by decide +kernel
theorem dL_law_1681 : decode cL_law 1681 = .ok (.iadd, 1) := by decide +kernel
theorem dL_law_1682 : decode cL_law 1682 = .ok (.iaload, 1) := by decide +kernel
theorem dL_law_1683 : decode cL_law 1683 = .ok (.invokevirtual 202, 3) := by decide +kernel
theorem dL_law_1686 : decode cL_law 1686 = .ok (.pop, 1) := by decide +kernel
theorem dL_law_1687 : decode cL_law 1687 = .ok (.goto 778, 3) := by decide +kernel
theorem dL_law_1690 : decode cL_law 1690 = .ok (.aload_n 1, 1) := by decide +kernel
theorem dL_law_1691 : decode cL_law 1691 = .ok (.aload_n 0, 1) := by decide +kernel
theorem dL_law_1692 : decode cL_law 1692 = .ok (.iload_n 3, 1) := by decide +kernel
theorem dL_law_1693 : decode cL_law 1693 = .ok (.iconst 1, 1) := by decide +kernel
theorem dL_law_1694 : decode cL_law 1694 = .ok (.iadd, 1) := by decide +kernel
theorem dL_law_1695 : decode cL_law 1695 = .ok (.iaload, 1) := by decide +kernel
theorem dL_law_1696 : decode cL_law 1696 = .ok (.aload_n 0, 1) := by decide +kernel
theorem dL_law_1697 : decode cL_law 1697 = .ok (.iload_n 3, 1) := by decide +kernel
theorem dL_law_1698 : decode cL_law 1698 = .ok (.iconst 2, 1) := by decide +kernel
theorem dL_law_1699 : decode cL_law 1699 = .ok (.iadd, 1) := by decide +kernel
theorem dL_law_1700 : decode cL_law 1700 = .ok (.iaload, 1) := by decide +kernel
theorem dL_law_1701 : decode cL_law 1701 = .ok (.invokevirtual 203, 3) := by decide +kernel
theorem dL_law_1704 : decode cL_law 1704 = .ok (.pop, 1) := by decide +kernel
theorem dL_law_1705 : decode cL_law 1705 = .ok (.aload_n 2, 1) := by decide +kernel
theorem dL_law_1706 : decode cL_law 1706 = .ok (.aload_n 0, 1) := by decide +kernel
theorem dL_law_1707 : decode cL_law 1707 = .ok (.iload_n 3, 1) := by decide +kernel
theorem dL_law_1708 : decode cL_law 1708 = .ok (.iconst 1, 1) := by decide +kernel
theorem dL_law_1709 : decode cL_law 1709 = .ok (.iadd, 1) := by decide +kernel
theorem dL_law_1710 : decode cL_law 1710 = .ok (.iaload, 1) := by decide +kernel
theorem dL_law_1711 : decode cL_law 1711 = .ok (.aload_n 0, 1) := by decide +kernel
theorem dL_law_1712 : decode cL_law 1712 = .ok (.iload_n 3, 1) := by decide +kernel
theorem dL_law_1713 : decode cL_law 1713 = .ok (.iconst 2, 1) := by decide +kernel
theorem dL_law_1714 : decode cL_law 1714 = .ok (.iadd, 1) := by decide +kernel
theorem dL_law_1715 : decode cL_law 1715 = .ok (.iaload, 1) := by decide +kernel
theorem dL_law_1716 : decode cL_law 1716 = .ok (.invokevirtual 206, 3) := by decide +kernel
theorem dL_law_1719 : decode cL_law 1719 = .ok (.pop, 1) := by decide +kernel
theorem dL_law_1720 : decode cL_law 1720 = .ok (.goto 745, 3) := by decide +kernel
theorem dL_law_1723 : decode cL_law 1723 = .ok (.aload_n 1, 1) := by decide +kernel
theorem dL_law_1724 : decode cL_law 1724 = .ok (.aload_n 0, 1) := by decide +kernel
theorem dL_law_1725 : decode cL_law 1725 = .ok (.iload_n 3, 1) := by decide +kernel
theorem dL_law_1726 : decode cL_law 1726 = .ok (.iconst 1, 1) := by decide +kernel
theorem dL_law_1727 : decode cL_law 1727 = .ok (.iadd, 1) := by decide +kernel
theorem dL_law_1728 : decode cL_law 1728 = .ok (.iaload, 1) := by decide +kernel
theorem dL_law_1729 : decode cL_law 1729 = .ok (.invokevirtual 207, 3) := by decide +kernel
theorem dL_law_1732 : decode cL_law 1732 = .ok (.pop, 1) := by decide +kernel
theorem dL_law_1733 : decode cL_law 1733 = .ok (.aload_n 2, 1) := by decide +kernel
theorem dL_law_1734 : decode cL_law 1734 = .ok (.aload_n 0, 1) := by decide +kernel
theorem dL_law_1735 : decode cL_law 1735 = .ok (.iload_n 3, 1) := by decide +kernel
theorem dL_law_1736 : decode cL_law 1736 = .ok (.iconst 1, 1) := by decide +kernel
theorem dL_law_1737 : decode cL_law 1737 = .ok (.iadd, 1) := by decide +kernel
theorem dL_law_1738 : decode cL_law 1738 = .ok (.iaload, 1) := by decide +kernel
theorem dL_law_1739 : decode cL_law 1739 = .ok (.invokevirtual 210, 3) := by decide +kernel
theorem dL_law_1742 : decode cL_law 1742 = .ok (.pop, 1) := by decide +kernel
theorem dL_law_1743 : decode cL_law 1743 = .ok (.goto 722, 3) := by decide +kernel
theorem dL_law_1746 : decode cL_law 1746 = .ok (.aload_n 1, 1) := by decide +kernel
theorem dL_law_1747 : decode cL_law 1747 = .ok (.aload_n 0, 1) := by decide +kernel
theorem dL_law_1748 : decode cL_law 1748 = .ok (.iload_n 3, 1) := by decide +kernel
theorem dL_law_1749 : decode cL_law 1749 = .ok (.iconst 1, 1) := by decide +kernel
theorem dL_law_1750 : decode cL_law 1750 = .ok (.iadd, 1) := by decide +kernel
theorem dL_law_1751 : decode cL_law 1751 = .ok (.iaload, 1) := by decide +kernel
theorem dL_law_1752 : decode cL_law 1752 = .ok (.aload_n 0, 1) := by decide +kernel
theorem dL_law_1753 : decode cL_law 1753 = .ok (.iload_n 3, 1) := by decide +kernel
theorem dL_law_1754 : decode cL_law 1754 = .ok (.iconst 2, 1) := by decide +kernel
theorem dL_law_1755 : decode cL_law 1755 = .ok (.iadd, 1) := by decide +kernel
theorem dL_law_1756 : decode cL_law 1756 = .ok (.iaload, 1) := by decide +kernel
theorem dL_law_1757 : decode cL_law 1757 = .ok (.invokevirtual 211, 3) := by decide +kernel
theorem dL_law_1760 : decode cL_law 1760 = .ok (.pop, 1) := by decide +kernel
theorem dL_law_1761 : decode cL_law 1761 = .ok (.aload_n 2, 1) := by decide +kernel
theorem dL_law_1762 : decode cL_law 1762 = .ok (.aload_n 0, 1) := by decide +kernel
theorem dL_law_1763 : decode cL_law 1763 = .ok (.iload_n 3, 1) := by decide +kernel
theorem dL_law_1764 : decode cL_law 1764 = .ok (.iconst 1, 1) := by decide +kernel
theorem dL_law_1765 : decode cL_law 1765 = .ok (.iadd, 1) := by decide +kernel
theorem dL_law_1766 : decode cL_law 1766 = .ok (.iaload, 1) := by decide +kernel
theorem dL_law_1767 : decode cL_law 1767 = .ok (.aload_n 0, 1) := by decide +kernel
theorem dL_law_1768 : decode cL_law 1768 = .ok (.iload_n 3, 1) := by decide +kernel
theorem dL_law_1769 : decode cL_law 1769 = .ok (.iconst 2, 1) := by decide +kernel
theorem dL_law_1770 : decode cL_law 1770 = .ok (.iadd, 1) := by decide +kernel
theorem dL_law_1771 : decode cL_law 1771 = .ok (.iaload, 1) := by decide +kernel
theorem dL_law_1772 : decode cL_law 1772 = .ok (.invokevirtual 214, 3) := by decide +kernel
theorem dL_law_1775 : decode cL_law 1775 = .ok (.pop, 1) := by decide +kernel
theorem dL_law_1776 : decode cL_law 1776 = .ok (.goto 689, 3) := by decide +kernel
theorem dL_law_1779 : decode cL_law 1779 = .ok (.aload_n 1, 1) := by decide +kernel
theorem dL_law_1780 : decode cL_law 1780 = .ok (.aload_n 0, 1) := by decide +kernel
theorem dL_law_1781 : decode cL_law 1781 = .ok (.iload_n 3, 1) := by decide +kernel
theorem dL_law_1782 : decode cL_law 1782 = .ok (.iconst 1, 1) := by decide +kernel
theorem dL_law_1783 : decode cL_law 1783 = .ok (.iadd, 1) := by decide +kernel
theorem dL_law_1784 : decode cL_law 1784 = .ok (.iaload, 1) := by decide +kernel
theorem dL_law_1785 : decode cL_law 1785 = .ok (.aload_n 0, 1) := by decide +kernel
theorem dL_law_1786 : decode cL_law 1786 = .ok (.iload_n 3, 1) := by decide +kernel
theorem dL_law_1787 : decode cL_law 1787 = .ok (.iconst 2, 1) := by decide +kernel
theorem dL_law_1788 : decode cL_law 1788 = .ok (.iadd, 1) := by decide +kernel
theorem dL_law_1789 : decode cL_law 1789 = .ok (.iaload, 1) := by decide +kernel
theorem dL_law_1790 : decode cL_law 1790 = .ok (.invokevirtual 215, 3) := by decide +kernel
theorem dL_law_1793 : decode cL_law 1793 = .ok (.pop, 1) := by decide +kernel
theorem dL_law_1794 : decode cL_law 1794 = .ok (.aload_n 2, 1) := by decide +kernel
theorem dL_law_1795 : decode cL_law 1795 = .ok (.aload_n 0, 1) := by decide +kernel
theorem dL_law_1796 : decode cL_law 1796 = .ok (.iload_n 3, 1) := by decide +kernel
theorem dL_law_1797 : decode cL_law 1797 = .ok (.iconst 1, 1) := by decide +kernel
theorem dL_law_1798 : decode cL_law 1798 = .ok (.iadd, 1) := by decide +kernel
theorem dL_law_1799 : decode cL_law 1799 = .ok (.iaload, 1) := by decide +kernel
theorem dL_law_1800 : decode cL_law 1800 = .ok (.aload_n 0, 1) := by decide +kernel
theorem dL_law_1801 : decode cL_law 1801 = .ok (.iload_n 3, 1) := by decide +kernel
theorem dL_law_1802 : decode cL_law 1802 = .ok (.iconst 2, 1) := by decide +kernel
theorem dL_law_1803 : decode cL_law 1803 = .ok (.iadd, 1) := by decide +kernel
theorem dL_law_1804 : decode cL_law 1804 = .ok (.iaload, 1) := by decide +kernel
theorem dL_law_1805 : decode cL_law 1805 = .ok (.invokevirtual 218, 3) := by decide +kernel
theorem dL_law_1808 : decode cL_law 1808 = .ok (.pop, 1) := by decide +kernel
theorem dL_law_1809 : decode cL_law 1809 = .ok (.goto 656, 3) := by decide +kernel
theorem dL_law_1812 : decode cL_law 1812 = .ok (.aload_n 1, 1) := by decide +kernel
theorem dL_law_1813 : decode cL_law 1813 = .ok (.aload_n 0, 1) := by decide +kernel
theorem dL_law_1814 : decode cL_law 1814 = .ok (.iload_n 3, 1) := by decide +kernel
theorem dL_law_1815 : decode cL_law 1815 = .ok (.iconst 1, 1) := by decide +kernel
theorem dL_law_1816 : decode cL_law 1816 = .ok (.iadd, 1) := by decide +kernel
theorem dL_law_1817 : decode cL_law 1817 = .ok (.iaload, 1) := by decide +kernel
theorem dL_law_1818 : decode cL_law 1818 = .ok (.invokevirtual 219, 3) := by decide +kernel
theorem dL_law_1821 : decode cL_law 1821 = .ok (.pop, 1) := by decide +kernel
theorem dL_law_1822 : decode cL_law 1822 = .ok (.aload_n 2, 1) := by decide +kernel
theorem dL_law_1823 : decode cL_law 1823 = .ok (.aload_n 0, 1) := by decide +kernel
theorem dL_law_1824 : decode cL_law 1824 = .ok (.iload_n 3, 1) := by decide +kernel
theorem dL_law_1825 : decode cL_law 1825 = .ok (.iconst 1, 1) := by decide +kernel
theorem dL_law_1826 : decode cL_law 1826 = .ok (.iadd, 1) := by decide +kernel
theorem dL_law_1827 : decode cL_law 1827 = .ok (.iaload, 1) := by decide +kernel
theorem dL_law_1828 : decode cL_law 1828 = .ok (.invokevirtual 222, 3) := by decide +kernel
theorem dL_law_1831 : decode cL_law 1831 = .ok (.pop, 1) := by decide +kernel
theorem dL_law_1832 : decode cL_law 1832 = .ok (.goto 633, 3) := by decide +kernel
theorem dL_law_1835 : decode cL_law 1835 = .ok (.aload_n 1, 1) := by decide +kernel
theorem dL_law_1836 : decode cL_law 1836 = .ok (.aload_n 0, 1) := by decide +kernel
theorem dL_law_1837 : decode cL_law 1837 = .ok (.iload_n 3, 1) := by decide +kernel
theorem dL_law_1838 : decode cL_law 1838 = .ok (.iconst 1, 1) := by decide +kernel
theorem dL_law_1839 : decode cL_law 1839 = .ok (.iadd, 1) := by decide +kernel
theorem dL_law_1840 : decode cL_law 1840 = .ok (.iaload, 1) := by decide +kernel
theorem dL_law_1841 : decode cL_law 1841 = .ok (.invokevirtual 223, 3) := by decide +kernel
theorem dL_law_1844 : decode cL_law 1844 = .ok (.pop, 1) := by decide +kernel
theorem dL_law_1845 : decode cL_law 1845 = .ok (.aload_n 2, 1) := by decide +kernel
theorem dL_law_1846 : decode cL_law 1846 = .ok (.aload_n 0, 1) := by decide +kernel
theorem dL_law_1847 : decode cL_law 1847 = .ok (.iload_n 3, 1) := by decide +kernel
theorem dL_law_1848 : decode cL_law 1848 = .ok (.iconst 1, 1) := by decide +kernel
theorem dL_law_1849 : decode cL_law 1849 = .ok (.iadd, 1) := by decide +kernel
theorem dL_law_1850 : decode cL_law 1850 = .ok (.iaload, 1) := by decide +kernel
theorem dL_law_1851 : decode cL_law 1851 = .ok (.invokevirtual 226, 3) := by decide +kernel
theorem dL_law_1854 : decode cL_law 1854 = .ok (.pop, 1) := by decide +kernel
theorem dL_law_1855 : decode cL_law 1855 = .ok (.goto 610, 3) := by decide +kernel
theorem dL_law_1858 : decode cL_law 1858 = .ok (.aload_n 1, 1) := by decide +kernel
theorem dL_law_1859 : decode cL_law 1859 = .ok (.aload_n 0, 1) := by decide +kernel
theorem dL_law_1860 : decode cL_law 1860 = .ok (.iload_n 3, 1) := by decide +kernel
theorem dL_law_1861 : decode cL_law 1861 = .ok (.iconst 1, 1) := by decide +kernel
theorem dL_law_1862 : decode cL_law 1862 = .ok (.iadd, 1) := by decide +kernel
theorem dL_law_1863 : decode cL_law 1863 = .ok (.iaload, 1) := by decide +kernel
theorem dL_law_1864 : decode cL_law 1864 = .ok (.aload_n 0, 1) := by decide +kernel
theorem dL_law_1865 : decode cL_law 1865 = .ok (.iload_n 3, 1) := by decide +kernel
theorem dL_law_1866 : decode cL_law 1866 = .ok (.iconst 2, 1) := by decide +kernel
theorem dL_law_1867 : decode cL_law 1867 = .ok (.iadd, 1) := by decide +kernel
theorem dL_law_1868 : decode cL_law 1868 = .ok (.iaload, 1) := by decide +kernel
theorem dL_law_1869 : decode cL_law 1869 = .ok (.invokevirtual 227, 3) := by decide +kernel
theorem dL_law_1872 : decode cL_law 1872 = .ok (.pop, 1) := by decide +kernel
theorem dL_law_1873 : decode cL_law 1873 = .ok (.aload_n 2, 1) := by decide +kernel
theorem dL_law_1874 : decode cL_law 1874 = .ok (.aload_n 0, 1) := by decide +kernel
theorem dL_law_1875 : decode cL_law 1875 = .ok (.iload_n 3, 1) := by decide +kernel
theorem dL_law_1876 : decode cL_law 1876 = .ok (.iconst 1, 1) := by decide +kernel
theorem dL_law_1877 : decode cL_law 1877 = .ok (.iadd, 1) := by decide +kernel
theorem dL_law_1878 : decode cL_law 1878 = .ok (.iaload, 1) := by decide +kernel
theorem dL_law_1879 : decode cL_law 1879 = .ok (.aload_n 0, 1) := by decide +kernel
theorem dL_law_1880 : decode cL_law 1880 = .ok (.iload_n 3, 1) := by decide +kernel
theorem dL_law_1881 : decode cL_law 1881 = .ok (.iconst 2, 1) := by decide +kernel
theorem dL_law_1882 : decode cL_law 1882 = .ok (.iadd, 1) := by decide +kernel
theorem dL_law_1883 : decode cL_law 1883 = .ok (.iaload, 1) := by decide +kernel
theorem dL_law_1884 : decode cL_law 1884 = .ok (.invokevirtual 230, 3) := by decide +kernel
theorem dL_law_1887 : decode cL_law 1887 = .ok (.pop, 1) := by decide +kernel
theorem dL_law_1888 : decode cL_law 1888 = .ok (.goto 577, 3) := by decide +kernel
theorem dL_law_1891 : decode cL_law 1891 = .ok (.aload_n 1, 1) := by decide +kernel
theorem dL_law_1892 : decode cL_law 1892 = .ok (.invokevirtual 231, 3) := by decide +kernel
theorem dL_law_1895 : decode cL_law 1895 = .ok (.pop, 1) := by decide +kernel
theorem dL_law_1896 : decode cL_law 1896 = .ok (.aload_n 2, 1) := by decide +kernel
theorem dL_law_1897 : decode cL_law 1897 = .ok (.invokevirtual 234, 3) := by decide +kernel
theorem dL_law_1900 : decode cL_law 1900 = .ok (.pop, 1) := by decide +kernel
theorem dL_law_1901 : decode cL_law 1901 = .ok (.goto 564, 3) := by decide +kernel
theorem dL_law_1904 : decode cL_law 1904 = .ok (.aload_n 1, 1) := by decide +kernel
theorem dL_law_1905 : decode cL_law 1905 = .ok (.aload_n 0, 1) := by decide +kernel
theorem dL_law_1906 : decode cL_law 1906 = .ok (.iload_n 3, 1) := by decide +kernel
theorem dL_law_1907 : decode cL_law 1907 = .ok (.iconst 1, 1) := by decide +kernel
theorem dL_law_1908 : decode cL_law 1908 = .ok (.iadd, 1) := by decide +kernel
theorem dL_law_1909 : decode cL_law 1909 = .ok (.iaload, 1) := by decide +kernel
theorem dL_law_1910 : decode cL_law 1910 = .ok (.aload_n 0, 1) := by decide +kernel
theorem dL_law_1911 : decode cL_law 1911 = .ok (.iload_n 3, 1) := by decide +kernel
theorem dL_law_1912 : decode cL_law 1912 = .ok (.iconst 2, 1) := by decide +kernel
theorem dL_law_1913 : decode cL_law 1913 = .ok (.iadd, 1) := by decide +kernel
theorem dL_law_1914 : decode cL_law 1914 = .ok (.iaload, 1) := by decide +kernel
theorem dL_law_1915 : decode cL_law 1915 = .ok (.invokevirtual 235, 3) := by decide +kernel
theorem dL_law_1918 : decode cL_law 1918 = .ok (.pop, 1) := by decide +kernel
theorem dL_law_1919 : decode cL_law 1919 = .ok (.aload_n 2, 1) := by decide +kernel
theorem dL_law_1920 : decode cL_law 1920 = .ok (.aload_n 0, 1) := by decide +kernel
theorem dL_law_1921 : decode cL_law 1921 = .ok (.iload_n 3, 1) := by decide +kernel
theorem dL_law_1922 : decode cL_law 1922 = .ok (.iconst 1, 1) := by decide +kernel
theorem dL_law_1923 : decode cL_law 1923 = .ok (.iadd, 1) := by decide +kernel
theorem dL_law_1924 : decode cL_law 1924 = .ok (.iaload, 1) := by decide +kernel
theorem dL_law_1925 : decode cL_law 1925 = .ok (.aload_n 0, 1) := by decide +kernel
theorem dL_law_1926 : decode cL_law 1926 = .ok (.iload_n 3, 1) := by decide +kernel
theorem dL_law_1927 : decode cL_law 1927 = .ok (.iconst 2, 1) := by decide +kernel
theorem dL_law_1928 : decode cL_law 1928 = .ok (.iadd, 1) := by decide +kernel
theorem dL_law_1929 : decode cL_law 1929 = .ok (.iaload, 1) := by decide +kernel
theorem dL_law_1930 : decode cL_law 1930 = .ok (.invokevirtual 238, 3) := by decide +kernel
theorem dL_law_1933 : decode cL_law 1933 = .ok (.pop, 1) := by decide +kernel
theorem dL_law_1934 : decode cL_law 1934 = .ok (.goto 531, 3) := by decide +kernel
theorem dL_law_1937 : decode cL_law 1937 = .ok (.aload_n 1, 1) := by decide +kernel
theorem dL_law_1938 : decode cL_law 1938 = .ok (.invokevirtual 239, 3) := by decide +kernel
theorem dL_law_1941 : decode cL_law 1941 = .ok (.pop, 1) := by decide +kernel
theorem dL_law_1942 : decode cL_law 1942 = .ok (.aload_n 2, 1) := by decide +kernel
theorem dL_law_1943 : decode cL_law 1943 = .ok (.invokevirtual 242, 3) := by decide +kernel
theorem dL_law_1946 : decode cL_law 1946 = .ok (.pop, 1) := by decide +kernel
theorem dL_law_1947 : decode cL_law 1947 = .ok (.goto 518, 3) := by decide +kernel
theorem dL_law_1950 : decode cL_law 1950 = .ok (.aload_n 1, 1) := by decide +kernel
theorem dL_law_1951 : decode cL_law 1951 = .ok (.invokevirtual 243, 3) := by decide +kernel
theorem dL_law_1954 : decode cL_law 1954 = .ok (.pop, 1) := by decide +kernel
theorem dL_law_1955 : decode cL_law 1955 = .ok (.aload_n 2, 1) := by decide +kernel
theorem dL_law_1956 : decode cL_law 1956 = .ok (.invokevirtual 246, 3) := by decide +kernel
theorem dL_law_1959 : decode cL_law 1959 = .ok (.pop, 1) := by decide +kernel
theorem dL_law_1960 : decode cL_law 1960 = .ok (.goto 505, 3) := by decide +kernel
theorem dL_law_1963 : decode cL_law 1963 = .ok (.aload_n 1, 1) := by decide +kernel
theorem dL_law_1964 : decode cL_law 1964 = .ok (.aload_n 0, 1) := by decide +kernel
theorem dL_law_1965 : decode cL_law 1965 = .ok (.iload_n 3, 1) := by decide +kernel
theorem dL_law_1966 : decode cL_law 1966 = .ok (.iconst 1, 1) := by decide +kernel
theorem dL_law_1967 : decode cL_law 1967 = .ok (.iadd, 1) := by decide +kernel
theorem dL_law_1968 : decode cL_law 1968 = .ok (.iaload, 1) := by decide +kernel
theorem dL_law_1969 : decode cL_law 1969 = .ok (.invokevirtual 247, 3) := by decide +kernel
theorem dL_law_1972 : decode cL_law 1972 = .ok (.pop, 1) := by decide +kernel
theorem dL_law_1973 : decode cL_law 1973 = .ok (.aload_n 2, 1) := by decide +kernel
theorem dL_law_1974 : decode cL_law 1974 = .ok (.aload_n 0, 1) := by decide +kernel
theorem dL_law_1975 : decode cL_law 1975 = .ok (.iload_n 3, 1) := by decide +kernel
theorem dL_law_1976 : decode cL_law 1976 = .ok (.iconst 1, 1) := by decide +kernel
theorem dL_law_1977 : decode cL_law 1977 = .ok (.iadd, 1) := by decide +kernel
theorem dL_law_1978 : decode cL_law 1978 = .ok (.iaload, 1) := by decide +kernel
theorem dL_law_1979 : decode cL_law 1979 = .ok (.invokevirtual 250, 3) := by decide +kernel
theorem dL_law_1982 : decode cL_law 1982 = .ok (.pop, 1) := by decide +kernel
theorem dL_law_1983 : decode cL_law 1983 = .ok (.goto 482, 3) := by decide +kernel
theorem dL_law_1986 : decode cL_law 1986 = .ok (.aload_n 1, 1) := by decide +kernel
theorem dL_law_1987 : decode cL_law 1987 = .ok (.aload_n 0, 1) := by decide +kernel
theorem dL_law_1988 : decode cL_law 1988 = .ok (.iload_n 3, 1) := by decide +kernel
theorem dL_law_1989 : decode cL_law 1989 = .ok (.iconst 1, 1) := by decide +kernel
theorem dL_law_1990 : decode cL_law 1990 = .ok (.iadd, 1) := by decide +kernel
theorem dL_law_1991 : decode cL_law 1991 = .ok (.iaload, 1) := by decide +kernel
theorem dL_law_1992 : decode cL_law 1992 = .ok (.aload_n 0, 1) := by decide +kernel
theorem dL_law_1993 : decode cL_law 1993 = .ok (.iload_n 3, 1) := by decide +kernel
theorem dL_law_1994 : decode cL_law 1994 = .ok (.iconst 2, 1) := by decide +kernel
theorem dL_law_1995 : decode cL_law 1995 = .ok (.iadd, 1) := by decide +kernel
theorem dL_law_1996 : decode cL_law 1996 = .ok (.iaload, 1) := by decide +kernel
theorem dL_law_1997 : decode cL_law 1997 = .ok (.invokevirtual 251, 3) := by decide +kernel
theorem dL_law_2000 : decode cL_law 2000 = .ok (.pop, 1) := by decide +kernel
theorem dL_law_2001 : decode cL_law 2001 = .ok (.aload_n 2, 1) := by decide +kernel
theorem dL_law_2002 : decode cL_law 2002 = .ok (.aload_n 0, 1) := by decide +kernel
theorem dL_law_2003 : decode cL_law 2003 = .ok (.iload_n 3, 1) := by decide +kernel
theorem dL_law_2004 : decode cL_law 2004 = .ok (.iconst 1, 1) := by decide +kernel
theorem dL_law_2005 : decode cL_law 2005 = .ok (.iadd, 1) := by decide +kernel
theorem dL_law_2006 : decode cL_law 2006 = .ok (.iaload, 1) := by decide +kernel
theorem dL_law_2007 : decode cL_law 2007 = .ok (.aload_n 0, 1) := by decide +kernel
theorem dL_law_2008 : decode cL_law 2008 = .ok (.iload_n 3, 1) := by decide +kernel
theorem dL_law_2009 : decode cL_law 2009 = .ok (.iconst 2, 1) := by decide +kernel
theorem dL_law_2010 : decode cL_law 2010 = .ok (.iadd, 1) := by decide +kernel
theorem dL_law_2011 : decode cL_law 2011 = .ok (.iaload, 1) := by decide +kernel
theorem dL_law_2012 : decode cL_law 2012 = .ok (.invokevirtual 254, 3) := by decide +kernel
theorem dL_law_2015 : decode cL_law 2015 = .ok (.pop, 1) := by decide +kernel
theorem dL_law_2016 : decode cL_law 2016 = .ok (.goto 449, 3) := by decide +kernel
theorem dL_law_2019 : decode cL_law 2019 = .ok (.aload_n 1, 1) := by decide +kernel
theorem dL_law_2020 : decode cL_law 2020 = .ok (.aload_n 0, 1) := by decide +kernel
theorem dL_law_2021 : decode cL_law 2021 = .ok (.iload_n 3, 1) := by decide +kernel
theorem dL_law_2022 : decode cL_law 2022 = .ok (.iconst 1, 1) := by decide +kernel
theorem dL_law_2023 : decode cL_law 2023 = .ok (.iadd, 1) := by decide +kernel
theorem dL_law_2024 : decode cL_law 2024 = .ok (.iaload, 1) := by decide +kernel
theorem dL_law_2025 : decode cL_law 2025 = .ok (.aload_n 0, 1) := by decide +kernel
theorem dL_law_2026 : decode cL_law 2026 = .ok (.iload_n 3, 1) := by decide +kernel
theorem dL_law_2027 : decode cL_law 2027 = .ok (.iconst 2, 1) := by decide +kernel
theorem dL_law_2028 : decode cL_law 2028 = .ok (.iadd, 1) := by decide +kernel
theorem dL_law_2029 : decode cL_law 2029 = .ok (.iaload, 1) := by decide +kernel
theorem dL_law_2030 : decode cL_law 2030 = .ok (.invokevirtual 255, 3) := by decide +kernel
theorem dL_law_2033 : decode cL_law 2033 = .ok (.pop, 1) := by decide +kernel
theorem dL_law_2034 : decode cL_law 2034 = .ok (.aload_n 2, 1) := by decide +kernel
theorem dL_law_2035 : decode cL_law 2035 = .ok (.aload_n 0, 1) := by decide +kernel
theorem dL_law_2036 : decode cL_law 2036 = .ok (.iload_n 3, 1) := by decide +kernel
theorem dL_law_2037 : decode cL_law 2037 = .ok (.iconst 1, 1) := by decide +kernel
theorem dL_law_2038 : decode cL_law 2038 = .ok (.iadd, 1) := by decide +kernel
theorem dL_law_2039 : decode cL_law 2039 = .ok (.iaload, 1) := by decide +kernel
theorem dL_law_2040 : decode cL_law 2040 = .ok (.aload_n 0, 1) := by decide +kernel
theorem dL_law_2041 : decode cL_law 2041 = .ok (.iload_n 3, 1) := by decide +kernel
theorem dL_law_2042 : decode cL_law 2042 = .ok (.iconst 2, 1) := by decide +kernel
theorem dL_law_2043 : decode cL_law 2043 = .ok (.iadd, 1) := by decide +kernel
theorem dL_law_2044 : decode cL_law 2044 = .ok (.iaload, 1) := by decide +kernel
theorem dL_law_2045 : decode cL_law 2045 = .ok (.invokevirtual 258, 3) := by decide +kernel
theorem dL_law_2048 : decode cL_law 2048 = .ok (.pop, 1) := by decide +kernel
theorem dL_law_2049 : decode cL_law 2049 = .ok (.goto 416, 3) := by decide +kernel
theorem dL_law_2052 : decode cL_law 2052 = .ok (.aload_n 1, 1) := by decide +kernel
theorem dL_law_2053 : decode cL_law 2053 = .ok (.aload_n 0, 1) := by decide +kernel
theorem dL_law_2054 : decode cL_law 2054 = .ok (.iload_n 3, 1) := by decide +kernel
theorem dL_law_2055 : decode cL_law 2055 = .ok (.iconst 1, 1) := by decide +kernel
theorem dL_law_2056 : decode cL_law 2056 = .ok (.iadd, 1) := by decide +kernel
theorem dL_law_2057 : decode cL_law 2057 = .ok (.iaload, 1) := by decide +kernel
theorem dL_law_2058 : decode cL_law 2058 = .ok (.invokevirtual 259, 3) := by decide +kernel
theorem dL_law_2061 : decode cL_law 2061 = .ok (.pop, 1) := by decide +kernel
theorem dL_law_2062 : decode cL_law 2062 = .ok (.aload_n 2, 1) := by decide +kernel
theorem dL_law_2063 : decode cL_law 2063 = .ok (.aload_n 0, 1) := by decide +kernel
theorem dL_law_2064 : decode cL_law 2064 = .ok (.iload_n 3, 1) := by decide +kernel
theorem dL_law_2065 : decode cL_law 2065 = .ok (.iconst 1, 1) := by decide +kernel
theorem dL_law_2066 : decode cL_law 2066 = .ok (.iadd, 1) := by decide +kernel
theorem dL_law_2067 : decode cL_law 2067 = .ok (.iaload, 1) := by decide +kernel
theorem dL_law_2068 : decode cL_law 2068 = .ok (.invokevirtual 262, 3) := by decide +kernel
theorem dL_law_2071 : decode cL_law 2071 = .ok (.pop, 1) := by decide +kernel
theorem dL_law_2072 : decode cL_law 2072 = .ok (.goto 393, 3) := by decide +kernel
theorem dL_law_2075 : decode cL_law 2075 = .ok (.aload_n 1, 1) := by decide +kernel
theorem dL_law_2076 : decode cL_law 2076 = .ok (.aload_n 0, 1) := by decide +kernel
theorem dL_law_2077 : decode cL_law 2077 = .ok (.iload_n 3, 1) := by decide +kernel
theorem dL_law_2078 : decode cL_law 2078 = .ok (.iconst 1, 1) := by decide +kernel
theorem dL_law_2079 : decode cL_law 2079 = .ok (.iadd, 1) := by decide +kernel
theorem dL_law_2080 : decode cL_law 2080 = .ok (.iaload, 1) := by decide +kernel
theorem dL_law_2081 : decode cL_law 2081 = .ok (.aload_n 0, 1) := by decide +kernel
theorem dL_law_2082 : decode cL_law 2082 = .ok (.iload_n 3, 1) := by decide +kernel
theorem dL_law_2083 : decode cL_law 2083 = .ok (.iconst 2, 1) := by decide +kernel
theorem dL_law_2084 : decode cL_law 2084 = .ok (.iadd, 1) := by decide +kernel
theorem dL_law_2085 : decode cL_law 2085 = .ok (.iaload, 1) := by decide +kernel
theorem dL_law_2086 : decode cL_law 2086 = .ok (.aload_n 0, 1) := by decide +kernel
theorem dL_law_2087 : decode cL_law 2087 = .ok (.iload_n 3, 1) := by decide +kernel
theorem dL_law_2088 : decode cL_law 2088 = .ok (.iconst 3, 1) := by decide +kernel
theorem dL_law_2089 : decode cL_law 2089 = .ok (.iadd, 1) := by decide +kernel
theorem dL_law_2090 : decode cL_law 2090 = .ok (.iaload, 1) := by decide +kernel
theorem dL_law_2091 : decode cL_law 2091 = .ok (.invokevirtual 263, 3) := by decide +kernel
theorem dL_law_2094 : decode cL_law 2094 = .ok (.pop, 1) := by decide +kernel
theorem dL_law_2095 : decode cL_law 2095 = .ok (.aload_n 2, 1) := by decide +kernel
theorem dL_law_2096 : decode cL_law 2096 = .ok (.aload_n 0, 1) := by decide +kernel
theorem dL_law_2097 : decode cL_law 2097 = .ok (.iload_n 3, 1) := by decide +kernel
theorem dL_law_2098 : decode cL_law 2098 = .ok (.iconst 1, 1) := by decide +kernel
theorem dL_law_2099 : decode cL_law 2099 = .ok (.iadd, 1) := by decide +kernel
theorem dL_law_2100 : decode cL_law 2100 = .ok (.iaload, 1) := by decide +kernel
theorem dL_law_2101 : decode cL_law 2101 = .ok (.aload_n 0, 1) := by decide +kernel
theorem dL_law_2102 : decode cL_law 2102 = .ok (.iload_n 3, 1) := by decide +kernel
theorem dL_law_2103 : decode cL_law 2103 = .ok (.iconst 2, 1) := by decide +kernel
theorem dL_law_2104 : decode cL_law 2104 = .ok (.iadd, 1) := by decide +kernel
theorem dL_law_2105 : decode cL_law 2105 = .ok (.iaload, 1) := by decide +kernel
theorem dL_law_2106 : decode cL_law 2106 = .ok (.aload_n 0, 1) := by decide +kernel
theorem dL_law_2107 : decode cL_law 2107 = .ok (.iload_n 3, 1) := by decide +kernel
theorem dL_law_2108 : decode cL_law 2108 = .ok (.iconst 3, 1) := by decide +kernel
theorem dL_law_2109 : decode cL_law 2109 = .ok (.iadd, 1) := by decide +kernel
theorem dL_law_2110 : decode cL_law 2110 = .ok (.iaload, 1) := by decide +kernel
theorem dL_law_2111 : decode cL_law 2111 = .ok (.invokevirtual 266, 3) := by decide +kernel
theorem dL_law_2114 : decode cL_law 2114 = .ok (.pop, 1) := by decide +kernel
theorem dL_law_2115 : decode cL_law 2115 = .ok (.goto 350, 3) := by decide +kernel
theorem dL_law_2118 : decode cL_law 2118 = .ok (.aload_n 1, 1) := by decide +kernel
theorem dL_law_2119 : decode cL_law 2119 = .ok (.invokevirtual 267, 3) := by decide +kernel
theorem dL_law_2122 : decode cL_law 2122 = .ok (.pop, 1) := by decide +kernel
theorem dL_law_2123 : decode cL_law 2123 = .ok (.aload_n 2, 1) := by decide +kernel
theorem dL_law_2124 : decode cL_law 2124 = .ok (.invokevirtual 270, 3) := by decide +kernel
theorem dL_law_2127 : decode cL_law 2127 = .ok (.pop, 1) := by decide +kernel
theorem dL_law_2128 : decode cL_law 2128 = .ok (.goto 337, 3) := by decide +kernel
theorem dL_law_2131 : decode cL_law 2131 = .ok (.aload_n 1, 1) := by decide +kernel
theorem dL_law_2132 : decode cL_law 2132 = .ok (.aload_n 0, 1) := by decide +kernel
theorem dL_law_2133 : decode cL_law 2133 = .ok (.iload_n 3, 1) := by decide +kernel
theorem dL_law_2134 : decode cL_law 2134 = .ok (.iconst 1, 1) := by decide +kernel
theorem dL_law_2135 : decode cL_law 2135 = .ok (.iadd, 1) := by decide +kernel
theorem dL_law_2136 : decode cL_law 2136 = .ok (.iaload, 1) := by decide +kernel
theorem dL_law_2137 : decode cL_law 2137 = .ok (.aload_n 0, 1) := by decide +kernel
theorem dL_law_2138 : decode cL_law 2138 = .ok (.iload_n 3, 1) := by decide +kernel
theorem dL_law_2139 : decode cL_law 2139 = .ok (.iconst 2, 1) := by decide +kernel
theorem dL_law_2140 : decode cL_law 2140 = .ok (.iadd, 1) := by decide +kernel
theorem dL_law_2141 : decode cL_law 2141 = .ok (.iaload, 1) := by decide +kernel
theorem dL_law_2142 : decode cL_law 2142 = .ok (.aload_n 0, 1) := by decide +kernel
theorem dL_law_2143 : decode cL_law 2143 = .ok (.iload_n 3, 1) := by decide +kernel
theorem dL_law_2144 : decode cL_law 2144 = .ok (.iconst 3, 1) := by decide +kernel
theorem dL_law_2145 : decode cL_law 2145 = .ok (.iadd, 1) := by decide +kernel
theorem dL_law_2146 : decode cL_law 2146 = .ok (.iaload, 1) := by decide +kernel
theorem dL_law_2147 : decode cL_law 2147 = .ok (.aload_n 0, 1) := by decide +kernel
theorem dL_law_2148 : decode cL_law 2148 = .ok (.iload_n 3, 1) := by decide +kernel
theorem dL_law_2149 : decode cL_law 2149 = .ok (.iconst 4, 1) := by decide +kernel
theorem dL_law_2150 : decode cL_law 2150 = .ok (.iadd, 1) := by decide +kernel
theorem dL_law_2151 : decode cL_law 2151 = .ok (.iaload, 1) := by decide +kernel
theorem dL_law_2152 : decode cL_law 2152 = .ok (.invokevirtual 271, 3) := by decide +kernel
theorem dL_law_2155 : decode cL_law 2155 = .ok (.pop, 1) := by decide +kernel
theorem dL_law_2156 : decode cL_law 2156 = .ok (.aload_n 2, 1) := by decide +kernel
theorem dL_law_2157 : decode cL_law 2157 = .ok (.aload_n 0, 1) := by decide +kernel
theorem dL_law_2158 : decode cL_law 2158 = .ok (.iload_n 3, 1) := by decide +kernel
theorem dL_law_2159 : decode cL_law 2159 = .ok (.iconst 1, 1) := by decide +kernel
theorem dL_law_2160 : decode cL_law 2160 = .ok (.iadd, 1) := by decide +kernel
theorem dL_law_2161 : decode cL_law 2161 = .ok (.iaload, 1) := by decide +kernel
theorem dL_law_2162 : decode cL_law 2162 = .ok (.aload_n 0, 1) := by decide +kernel
theorem dL_law_2163 : decode cL_law 2163 = .ok (.iload_n 3, 1) := by decide +kernel
theorem dL_law_2164 : decode cL_law 2164 = .ok (.iconst 2, 1) := by decide +kernel
theorem dL_law_2165 : decode cL_law 2165 = .ok (.iadd, 1) := by decide +kernel
theorem dL_law_2166 : decode cL_law 2166 = .ok (.iaload, 1) := by decide +kernel
theorem dL_law_2167 : decode cL_law 2167 = .ok (.aload_n 0, 1) := by decide +kernel
theorem dL_law_2168 : decode cL_law 2168 = .ok (.iload_n 3, 1) := by decide +kernel
theorem dL_law_2169 : decode cL_law 2169 = .ok (.iconst 3, 1) := by decide +kernel
theorem dL_law_2170 : decode cL_law 2170 = .ok (.iadd, 1) := by decide +kernel
theorem dL_law_2171 : decode cL_law 2171 = .ok (.iaload, 1) := by decide +kernel
theorem dL_law_2172 : decode cL_law 2172 = .ok (.aload_n 0, 1) := by decide +kernel
theorem dL_law_2173 : decode cL_law 2173 = .ok (.iload_n 3, 1) := by decide +kernel
theorem dL_law_2174 : decode cL_law 2174 = .ok (.iconst 4, 1) := by decide +kernel
theorem dL_law_2175 : decode cL_law 2175 = .ok (.iadd, 1) := by decide +kernel
theorem dL_law_2176 : decode cL_law 2176 = .ok (.iaload, 1) := by decide +kernel
theorem dL_law_2177 : decode cL_law 2177 = .ok (.invokevirtual 274, 3) := by decide +kernel
theorem dL_law_2180 : decode cL_law 2180 = .ok (.pop, 1) := by decide +kernel
theorem dL_law_2181 : decode cL_law 2181 = .ok (.goto 284, 3) := by decide +kernel
theorem dL_law_2184 : decode cL_law 2184 = .ok (.aload_n 1, 1) := by decide +kernel
theorem dL_law_2185 : decode cL_law 2185 = .ok (.aload_n 0, 1) := by decide +kernel
theorem dL_law_2186 : decode cL_law 2186 = .ok (.iload_n 3, 1) := by decide +kernel
theorem dL_law_2187 : decode cL_law 2187 = .ok (.iconst 1, 1) := by decide +kernel
theorem dL_law_2188 : decode cL_law 2188 = .ok (.iadd, 1) := by decide +kernel
theorem dL_law_2189 : decode cL_law 2189 = .ok (.iaload, 1) := by decide +kernel
theorem dL_law_2190 : decode cL_law 2190 = .ok (.aload_n 0, 1) := by decide +kernel
theorem dL_law_2191 : decode cL_law 2191 = .ok (.iload_n 3, 1) := by decide +kernel
theorem dL_law_2192 : decode cL_law 2192 = .ok (.iconst 2, 1) := by decide +kernel
theorem dL_law_2193 : decode cL_law 2193 = .ok (.iadd, 1) := by decide +kernel
theorem dL_law_2194 : decode cL_law 2194 = .ok (.iaload, 1) := by decide +kernel
theorem dL_law_2195 : decode cL_law 2195 = .ok (.invokevirtual 275, 3) := by decide +kernel
theorem dL_law_2198 : decode cL_law 2198 = .ok (.pop, 1) := by decide +kernel
theorem dL_law_2199 : decode cL_law 2199 = .ok (.aload_n 2, 1) := by decide +kernel
theorem dL_law_2200 : decode cL_law 2200 = .ok (.aload_n 0, 1) := by decide +kernel
theorem dL_law_2201 : decode cL_law 2201 = .ok (.iload_n 3, 1) := by decide +kernel
theorem dL_law_2202 : decode cL_law 2202 = .ok (.iconst 1, 1) := by decide +kernel
theorem dL_law_2203 : decode cL_law 2203 = .ok (.iadd, 1) := by decide +kernel
theorem dL_law_2204 : decode cL_law 2204 = .ok (.iaload, 1) := by decide +kernel
theorem dL_law_2205 : decode cL_law 2205 = .ok (.aload_n 0, 1) := by decide +kernel
theorem dL_law_2206 : decode cL_law 2206 = .ok (.iload_n 3, 1) := by decide +kernel
theorem dL_law_2207 : decode cL_law 2207 = .ok (.iconst 2, 1) := by decide +kernel
theorem dL_law_2208 : decode cL_law 2208 = .ok (.iadd, 1) := by decide +kernel
theorem dL_law_2209 : decode cL_law 2209 = .ok (.iaload, 1) := by decide +kernel
theorem dL_law_2210 : decode cL_law 2210 = .ok (.invokevirtual 278, 3) := by decide +kernel
theorem dL_law_2213 : decode cL_law 2213 = .ok (.pop, 1) := by decide +kernel
theorem dL_law_2214 : decode cL_law 2214 = .ok (.goto 251, 3) := by decide +kernel
theorem dL_law_2217 : decode cL_law 2217 = .ok (.aload_n 1, 1) := by decide +kernel
theorem dL_law_2218 : decode cL_law 2218 = .ok (.aload_n 0, 1) := by decide +kernel
theorem dL_law_2219 : decode cL_law 2219 = .ok (.iload_n 3, 1) := by decide +kernel
theorem dL_law_2220 : decode cL_law 2220 = .ok (.iconst 1, 1) := by decide +kernel
theorem dL_law_2221 : decode cL_law 2221 = .ok (.iadd, 1) := by decide +kernel
theorem dL_law_2222 : decode cL_law 2222 = .ok (.iaload, 1) := by decide +kernel
theorem dL_law_2223 : decode cL_law 2223 = .ok (.invokevirtual 279, 3) := by decide +kernel
theorem dL_law_2226 : decode cL_law 2226 = .ok (.pop, 1) := by decide +kernel
theorem dL_law_2227 : decode cL_law 2227 = .ok (.aload_n 2, 1) := by decide +kernel
theorem dL_law_2228 : decode cL_law 2228 = .ok (.aload_n 0, 1) := by decide +kernel
theorem dL_law_2229 : decode cL_law 2229 = .ok (.iload_n 3, 1) := by decide +kernel
theorem dL_law_2230 : decode cL_law 2230 = .ok (.iconst 1, 1) := by decide +kernel
theorem dL_law_2231 : decode cL_law 2231 = .ok (.iadd, 1) := by decide +kernel
theorem dL_law_2232 : decode cL_law 2232 = .ok (.iaload, 1) := by decide +kernel
theorem dL_law_2233 : decode cL_law 2233 = .ok (.invokevirtual 282, 3) := by decide +kernel
theorem dL_law_2236 : decode cL_law 2236 = .ok (.pop, 1) := by decide +kernel
theorem dL_law_2237 : decode cL_law 2237 = .ok (.goto 228, 3) := by decide +kernel
theorem dL_law_2240 : decode cL_law 2240 = .ok (.aload_n 1, 1) := by decide +kernel
theorem dL_law_2241 : decode cL_law 2241 = .ok (.aload_n 0, 1) := by decide +kernel
theorem dL_law_2242 : decode cL_law 2242 = .ok (.iload_n 3, 1) := by decide +kernel
theorem dL_law_2243 : decode cL_law 2243 = .ok (.iconst 1, 1) := by decide +kernel
theorem dL_law_2244 : decode cL_law 2244 = .ok (.iadd, 1) := by decide +kernel
theorem dL_law_2245 : decode cL_law 2245 = .ok (.iaload, 1) := by decide +kernel
theorem dL_law_2246 : decode cL_law 2246 = .ok (.invokevirtual 283, 3) := by decide +kernel
theorem dL_law_2249 : decode cL_law 2249 = .ok (.pop, 1) := by decide +kernel
theorem dL_law_2250 : decode cL_law 2250 = .ok (.aload_n 2, 1) := by decide +kernel
theorem dL_law_2251 : decode cL_law 2251 = .ok (.aload_n 0, 1) := by decide +kernel
theorem dL_law_2252 : decode cL_law 2252 = .ok (.iload_n 3, 1) := by decide +kernel
theorem dL_law_2253 : decode cL_law 2253 = .ok (.iconst 1, 1) := by decide +kernel
theorem dL_law_2254 : decode cL_law 2254 = .ok (.iadd, 1) := by decide +kernel
theorem dL_law_2255 : decode cL_law 2255 = .ok (.iaload, 1) := by decide +kernel
theorem dL_law_2256 : decode cL_law 2256 = .ok (.invokevirtual 286, 3) := by decide +kernel
theorem dL_law_2259 : decode cL_law 2259 = .ok (.pop, 1) := by decide +kernel
theorem dL_law_2260 : decode cL_law 2260 = .ok (.goto 205, 3) := by decide +kernel
theorem dL_law_2263 : decode cL_law 2263 = .ok (.aload_n 1, 1) := by decide +kernel
theorem dL_law_2264 : decode cL_law 2264 = .ok (.aload_n 0, 1) := by decide +kernel
theorem dL_law_2265 : decode cL_law 2265 = .ok (.iload_n 3, 1) := by decide +kernel
theorem dL_law_2266 : decode cL_law 2266 = .ok (.iconst 1, 1) := by decide +kernel
theorem dL_law_2267 : decode cL_law 2267 = .ok (.iadd, 1) := by decide +kernel
theorem dL_law_2268 : decode cL_law 2268 = .ok (.iaload, 1) := by decide +kernel
theorem dL_law_2269 : decode cL_law 2269 = .ok (.invokevirtual 287, 3) := by decide +kernel
theorem dL_law_2272 : decode cL_law 2272 = .ok (.pop, 1) := by decide +kernel
theorem dL_law_2273 : decode cL_law 2273 = .ok (.aload_n 2, 1) := by decide +kernel
theorem dL_law_2274 : decode cL_law 2274 = .ok (.aload_n 0, 1) := by decide +kernel
theorem dL_law_2275 : decode cL_law 2275 = .ok (.iload_n 3, 1) := by decide +kernel
theorem dL_law_2276 : decode cL_law 2276 = .ok (.iconst 1, 1) := by decide +kernel
theorem dL_law_2277 : decode cL_law 2277 = .ok (.iadd, 1) := by decide +kernel
theorem dL_law_2278 : decode cL_law 2278 = .ok (.iaload, 1) := by decide +kernel
theorem dL_law_2279 : decode cL_law 2279 = .ok (.invokevirtual 290, 3) := by decide +kernel
theorem dL_law_2282 : decode cL_law 2282 = .ok (.pop, 1) := by decide +kernel
theorem dL_law_2283 : decode cL_law 2283 = .ok (.goto 182, 3) := by decide +kernel
theorem dL_law_2286 : decode cL_law 2286 = .ok (.aload_n 1, 1) := by decide +kernel
theorem dL_law_2287 : decode cL_law 2287 = .ok (.aload_n 0, 1) := by decide +kernel
theorem dL_law_2288 : decode cL_law 2288 = .ok (.iload_n 3, 1) := by decide +kernel
theorem dL_law_2289 : decode cL_law 2289 = .ok (.iconst 1, 1) := by decide +kernel
theorem dL_law_2290 : decode cL_law 2290 = .ok (.iadd, 1) := by decide +kernel
theorem dL_law_2291 : decode cL_law 2291 = .ok (.iaload, 1) := by decide +kernel
theorem dL_law_2292 : decode cL_law 2292 = .ok (.aload_n 0, 1) := by decide +kernel
theorem dL_law_2293 : decode cL_law 2293 = .ok (.iload_n 3, 1) := by decide +kernel
theorem dL_law_2294 : decode cL_law 2294 = .ok (.iconst 2, 1) := by decide +kernel
theorem dL_law_2295 : decode cL_law 2295 = .ok (.iadd, 1) := by decide +kernel
theorem dL_law_2296 : decode cL_law 2296 = .ok (.iaload, 1) := by decide +kernel
theorem dL_law_2297 : decode cL_law 2297 = .ok (.aload_n 0, 1) := by decide +kernel
theorem dL_law_2298 : decode cL_law 2298 = .ok (.iload_n 3, 1) := by decide +kernel
theorem dL_law_2299 : decode cL_law 2299 = .ok (.iconst 3, 1) := by decide +kernel
theorem dL_law_2300 : decode cL_law 2300 = .ok (.iadd, 1) := by decide +kernel
theorem dL_law_2301 : decode cL_law 2301 = .ok (.iaload, 1) := by decide +kernel
theorem dL_law_2302 : decode cL_law 2302 = .ok (.invokevirtual 291, 3) := by decide +kernel
theorem dL_law_2305 : decode cL_law 2305 = .ok (.pop, 1) := by decide +kernel
theorem dL_law_2306 : decode cL_law 2306 = .ok (.aload_n 2, 1) := by decide +kernel
theorem dL_law_2307 : decode cL_law 2307 = .ok (.aload_n 0, 1) := by decide +kernel
theorem dL_law_2308 : decode cL_law 2308 = .ok (.iload_n 3, 1) := by decide +kernel
theorem dL_law_2309 : decode cL_law 2309 = .ok (.iconst 1, 1) := by decide +kernel
theorem dL_law_2310 : decode cL_law 2310 = .ok (.iadd, 1) := by decide +kernel
theorem dL_law_2311 : decode cL_law 2311 = .ok (.iaload, 1) := by decide +kernel
theorem dL_law_2312 : decode cL_law 2312 = .ok (.aload_n 0, 1) := by decide +kernel
theorem dL_law_2313 : decode cL_law 2313 = .ok (.iload_n 3, 1) := by decide +kernel
theorem dL_law_2314 : decode cL_law 2314 = .ok (.iconst 2, 1) := by decide +kernel
theorem dL_law_2315 : decode cL_law 2315 = .ok (.iadd, 1) := by decide +kernel
theorem dL_law_2316 : decode cL_law 2316 = .ok (.iaload, 1) := by decide +kernel
theorem dL_law_2317 : decode cL_law 2317 = .ok (.aload_n 0, 1) := by decide +kernel
theorem dL_law_2318 : decode cL_law 2318 = .ok (.iload_n 3, 1) := by decide +kernel
theorem dL_law_2319 : decode cL_law 2319 = .ok (.iconst 3, 1) := by decide +kernel
theorem dL_law_2320 : decode cL_law 2320 = .ok (.iadd, 1) := by decide +kernel
theorem dL_law_2321 : decode cL_law 2321 = .ok (.iaload, 1) := by decide +kernel
theorem dL_law_2322 : decode cL_law 2322 = .ok (.invokevirtual 294, 3) := by decide +kernel
theorem dL_law_2325 : decode cL_law 2325 = .ok (.pop, 1) := by decide +kernel
theorem dL_law_2326 : decode cL_law 2326 = .ok (.goto 139, 3) := by decide +kernel
theorem dL_law_2329 : decode cL_law 2329 = .ok (.aload_n 1, 1) := by decide +kernel
theorem dL_law_2330 : decode cL_law 2330 = .ok (.aload_n 0, 1) := by decide +kernel
theorem dL_law_2331 : decode cL_law 2331 = .ok (.iload_n 3, 1) := by decide +kernel
theorem dL_law_2332 : decode cL_law 2332 = .ok (.iconst 1, 1) := by decide +kernel
theorem dL_law_2333 : decode cL_law 2333 = .ok (.iadd, 1) := by decide +kernel
theorem dL_law_2334 : decode cL_law 2334 = .ok (.iaload, 1) := by decide +kernel
theorem dL_law_2335 : decode cL_law 2335 = .ok (.aload_n 0, 1) := by decide +kernel
theorem dL_law_2336 : decode cL_law 2336 = .ok (.iload_n 3, 1) := by decide +kernel
theorem dL_law_2337 : decode cL_law 2337 = .ok (.iconst 2, 1) := by decide +kernel
theorem dL_law_2338 : decode cL_law 2338 = .ok (.iadd, 1) := by decide +kernel
theorem dL_law_2339 : decode cL_law 2339 = .ok (.iaload, 1) := by decide +kernel
theorem dL_law_2340 : decode cL_law 2340 = .ok (.aload_n 0, 1) := by decide +kernel
theorem dL_law_2341 : decode cL_law 2341 = .ok (.iload_n 3, 1) := by decide +kernel
theorem dL_law_2342 : decode cL_law 2342 = .ok (.iconst 3, 1) := by decide +kernel
theorem dL_law_2343 : decode cL_law 2343 = .ok (.iadd, 1) := by decide +kernel
theorem dL_law_2344 : decode cL_law 2344 = .ok (.iaload, 1) := by decide +kernel
theorem dL_law_2345 : decode cL_law 2345 = .ok (.i2l, 1) := by decide +kernel
theorem dL_law_2346 : decode cL_law 2346 = .ok (.bipush 32, 2) := by decide +kernel
theorem dL_law_2348 : decode cL_law 2348 = .ok (.lshl, 1) := by decide +kernel
theorem dL_law_2349 : decode cL_law 2349 = .ok (.aload_n 0, 1) := by decide +kernel
theorem dL_law_2350 : decode cL_law 2350 = .ok (.iload_n 3, 1) := by decide +kernel
theorem dL_law_2351 : decode cL_law 2351 = .ok (.iconst 4, 1) := by decide +kernel
theorem dL_law_2352 : decode cL_law 2352 = .ok (.iadd, 1) := by decide +kernel
theorem dL_law_2353 : decode cL_law 2353 = .ok (.iaload, 1) := by decide +kernel
theorem dL_law_2354 : decode cL_law 2354 = .ok (.i2l, 1) := by decide +kernel
theorem dL_law_2355 : decode cL_law 2355 = .ok (.ldc2_w 295, 3) := by decide +kernel
theorem dL_law_2358 : decode cL_law 2358 = .ok (.land, 1) := by decide +kernel
theorem dL_law_2359 : decode cL_law 2359 = .ok (.lor, 1) := by decide +kernel
theorem dL_law_2360 : decode cL_law 2360 = .ok (.invokevirtual 297, 3) := by decide +kernel
theorem dL_law_2363 : decode cL_law 2363 = .ok (.pop, 1) := by decide +kernel
theorem dL_law_2364 : decode cL_law 2364 = .ok (.aload_n 2, 1) := by decide +kernel
theorem dL_law_2365 : decode cL_law 2365 = .ok (.aload_n 0, 1) := by decide +kernel
theorem dL_law_2366 : decode cL_law 2366 = .ok (.iload_n 3, 1) := by decide +kernel
theorem dL_law_2367 : decode cL_law 2367 = .ok (.iconst 1, 1) := by decide +kernel
theorem dL_law_2368 : decode cL_law 2368 = .ok (.iadd, 1) := by decide +kernel
theorem dL_law_2369 : decode cL_law 2369 = .ok (.iaload, 1) := by decide +kernel
theorem dL_law_2370 : decode cL_law 2370 = .ok (.aload_n 0, 1) := by decide +kernel
theorem dL_law_2371 : decode cL_law 2371 = .ok (.iload_n 3, 1) := by decide +kernel
theorem dL_law_2372 : decode cL_law 2372 = .ok (.iconst 2, 1) := by decide +kernel
theorem dL_law_2373 : decode cL_law 2373 = .ok (.iadd, 1) := by decide +kernel
theorem dL_law_2374 : decode cL_law 2374 = .ok (.iaload, 1) := by decide +kernel
theorem dL_law_2375 : decode cL_law 2375 = .ok (.aload_n 0, 1) := by decide +kernel
theorem dL_law_2376 : decode cL_law 2376 = .ok (.iload_n 3, 1) := by decide +kernel
theorem dL_law_2377 : decode cL_law 2377 = .ok (.iconst 3, 1) := by decide +kernel
theorem dL_law_2378 : decode cL_law 2378 = .ok (.iadd, 1) := by decide +kernel
theorem dL_law_2379 : decode cL_law 2379 = .ok (.iaload, 1) := by decide +kernel
theorem dL_law_2380 : decode cL_law 2380 = .ok (.i2l, 1) := by decide +kernel
theorem dL_law_2381 : decode cL_law 2381 = .ok (.bipush 32, 2) := by decide +kernel
theorem dL_law_2383 : decode cL_law 2383 = .ok (.lshl, 1) := by decide +kernel
theorem dL_law_2384 : decode cL_law 2384 = .ok (.aload_n 0, 1) := by decide +kernel
theorem dL_law_2385 : decode cL_law 2385 = .ok (.iload_n 3, 1) := by decide +kernel
theorem dL_law_2386 : decode cL_law 2386 = .ok (.iconst 4, 1) := by decide +kernel
theorem dL_law_2387 : decode cL_law 2387 = .ok (.iadd, 1) := by decide +kernel
theorem dL_law_2388 : decode cL_law 2388 = .ok (.iaload, 1) := by decide +kernel
theorem dL_law_2389 : decode cL_law 2389 = .ok (.i2l, 1) := by decide +kernel
theorem dL_law_2390 : decode cL_law 2390 = .ok (.ldc2_w 295, 3) := by decide +kernel
theorem dL_law_2393 : decode cL_law 2393 = .ok (.land, 1) := by decide +kernel
theorem dL_law_2394 : decode cL_law 2394 = .ok (.lor, 1) := by decide +kernel
theorem dL_law_2395 : decode cL_law 2395 = .ok (.invokevirtual 301, 3) := by decide +kernel
theorem dL_law_2398 : decode cL_law 2398 = .ok (.pop, 1) := by decide +kernel
theorem dL_law_2399 : decode cL_law 2399 = .ok (.goto 66, 3) := by decide +kernel
theorem dL_law_2402 : decode cL_law 2402 = .ok (.aload_n 1, 1) := by decide +kernel
theorem dL_law_2403 : decode cL_law 2403 = .ok (.aload_n 0, 1) := by decide +kernel
theorem dL_law_2404 : decode cL_law 2404 = .ok (.iload_n 3, 1) := by decide +kernel
theorem dL_law_2405 : decode cL_law 2405 = .ok (.iconst 1, 1) := by decide +kernel
theorem dL_law_2406 : decode cL_law 2406 = .ok (.iadd, 1) := by decide +kernel
theorem dL_law_2407 : decode cL_law 2407 = .ok (.iaload, 1) := by decide +kernel
theorem dL_law_2408 : decode cL_law 2408 = .ok (.aload_n 0, 1) := by decide +kernel
theorem dL_law_2409 : decode cL_law 2409 = .ok (.iload_n 3, 1) := by decide +kernel
theorem dL_law_2410 : decode cL_law 2410 = .ok (.iconst 2, 1) := by decide +kernel
theorem dL_law_2411 : decode cL_law 2411 = .ok (.iadd, 1) := by decide +kernel
theorem dL_law_2412 : decode cL_law 2412 = .ok (.iaload, 1) := by decide +kernel
theorem dL_law_2413 : decode cL_law 2413 = .ok (.aload_n 0, 1) := by decide +kernel
theorem dL_law_2414 : decode cL_law 2414 = .ok (.iload_n 3, 1) := by decide +kernel
theorem dL_law_2415 : decode cL_law 2415 = .ok (.iconst 3, 1) := by decide +kernel
theorem dL_law_2416 : decode cL_law 2416 = .ok (.iadd, 1) := by decide +kernel
theorem dL_law_2417 : decode cL_law 2417 = .ok (.iaload, 1) := by decide +kernel
theorem dL_law_2418 : decode cL_law 2418 = .ok (.aload_n 0, 1) := by decide +kernel
theorem dL_law_2419 : decode cL_law 2419 = .ok (.iload_n 3, 1) := by decide +kernel
theorem dL_law_2420 : decode cL_law 2420 = .ok (.iconst 4, 1) := by decide +kernel
theorem dL_law_2421 : decode cL_law 2421 = .ok (.iadd, 1) := by decide +kernel
theorem dL_law_2422 : decode cL_law 2422 = .ok (.iaload, 1) := by decide +kernel
theorem dL_law_2423 : decode cL_law 2423 = .ok (.aload_n 0, 1) := by decide +kernel
theorem dL_law_2424 : decode cL_law 2424 = .ok (.iload_n 3, 1) := by decide +kernel
theorem dL_law_2425 : decode cL_law 2425 = .ok (.iconst 5, 1) := by decide +kernel
theorem dL_law_2426 : decode cL_law 2426 = .ok (.iadd, 1) := by decide +kernel
theorem dL_law_2427 : decode cL_law 2427 = .ok (.iaload, 1) := by decide +kernel
theorem dL_law_2428 : decode cL_law 2428 = .ok (.invokevirtual 302, 3) := by decide +kernel
theorem dL_law_2431 : decode cL_law 2431 = .ok (.aload_n 2, 1) := by decide +kernel
theorem dL_law_2432 : decode cL_law 2432 = .ok (.aload_n 0, 1) := by decide +kernel
theorem dL_law_2433 : decode cL_law 2433 = .ok (.iload_n 3, 1) := by decide +kernel
theorem dL_law_2434 : decode cL_law 2434 = .ok (.iconst 1, 1) := by decide +kernel
theorem dL_law_2435 : decode cL_law 2435 = .ok (.iadd, 1) := by decide +kernel
theorem dL_law_2436 : decode cL_law 2436 = .ok (.iaload, 1) := by decide +kernel
theorem dL_law_2437 : decode cL_law 2437 = .ok (.aload_n 0, 1) := by decide +kernel
theorem dL_law_2438 : decode cL_law 2438 = .ok (.iload_n 3, 1) := by decide +kernel
theorem dL_law_2439 : decode cL_law 2439 = .ok (.iconst 2, 1) := by decide +kernel
theorem dL_law_2440 : decode cL_law 2440 = .ok (.iadd, 1) := by decide +kernel
theorem dL_law_2441 : decode cL_law 2441 = .ok (.iaload, 1) := by decide +kernel
theorem dL_law_2442 : decode cL_law 2442 = .ok (.aload_n 0, 1) := by decide +kernel
theorem dL_law_2443 : decode cL_law 2443 = .ok (.iload_n 3, 1) := by decide +kernel
theorem dL_law_2444 : decode cL_law 2444 = .ok (.iconst 3, 1) := by decide +kernel
theorem dL_law_2445 : decode cL_law 2445 = .ok (.iadd, 1) := by decide +kernel
theorem dL_law_2446 : decode cL_law 2446 = .ok (.iaload, 1) := by decide +kernel
theorem dL_law_2447 : decode cL_law 2447 = .ok (.aload_n 0, 1) := by decide +kernel
theorem dL_law_2448 : decode cL_law 2448 = .ok (.iload_n 3, 1) := by decide +kernel
theorem dL_law_2449 : decode cL_law 2449 = .ok (.iconst 4, 1) := by decide +kernel
theorem dL_law_2450 : decode cL_law 2450 = .ok (.iadd, 1) := by decide +kernel
theorem dL_law_2451 : decode cL_law 2451 = .ok (.iaload, 1) := by decide +kernel
theorem dL_law_2452 : decode cL_law 2452 = .ok (.aload_n 0, 1) := by decide +kernel
theorem dL_law_2453 : decode cL_law 2453 = .ok (.iload_n 3, 1) := by decide +kernel
theorem dL_law_2454 : decode cL_law 2454 = .ok (.iconst 5, 1) := by decide +kernel
theorem dL_law_2455 : decode cL_law 2455 = .ok (.iadd, 1) := by decide +kernel
theorem dL_law_2456 : decode cL_law 2456 = .ok (.iaload, 1) := by decide +kernel
theorem dL_law_2457 : decode cL_law 2457 = .ok (.invokevirtual 305, 3) := by decide +kernel
theorem dL_law_2460 : decode cL_law 2460 = .ok (.if_icmp .eq 5, 3) := by decide +kernel
/-! THE CLAIM OUT OF ONE WALK OF THE LAW'S BODY. Your part is whole_start (and what it stands on); all else here is the same for every law, but numbers. -/
def R_law : String := "GentleLettersLaw"
def lw_P (b : Addr) (xs : List Int32) (args : Array Value) (s : State) : Prop := args = #[.ref b] ∧ s.IntsAt b xs ∧ xs.length ≤ 3072 ∧ (Jvm.Cond.and given_1 narrow_1).before args s = true
def lw_Q (_ : Array Value) (s : State) (o : Outcome) (t : State) : Prop := o = .returned (some (.int 1)) ∧ Framed s o t [] 600000 7302250
def lw_Z (below : List Frame) (a : Array Value) (s : State) : State → Prop := fun t => ∃ o, t.status = .running ∧ Ended t below o ∧ lw_Q a s o t
/-- the law's own end, with 1 on the stack, nothing written that was there before, its room as the claim has it -/
theorem lw_ret {p : Program} {l : Launch} {e : Env} {s : State} {m : MethodId} {below : List Frame} {meth : Method} {c : Code} {b : Nat} (hx : p.tables.exec = Jvm.exec) (hb : c.code = code) (hr : meth.sig.returnType = ret) (hlocks : meth.locks = false) {pc : Nat} {H : Heap} {ls : Array Slot} (hdg : decode code pc = .ok (.ireturn, 1)) : W p l e room_1 s m #[Value.ref b] below meth c H [] 600000 7302250 (lw_Z below #[Value.ref b] s) (F0 m pc ls [.int 1]) := by
  intro T hT X
  obtain ⟨fs, hret, hrun, hended, hW, hframe⟩ := X.leave (v := some (.int 1)) (hlocks := hlocks) (fun h => by rw [hr] at h; cases h)
  have hmeth' : T.vm.method? m = some meth := X.method'
  refine ⟨T.setFrames fs, ?_, .returned (some (.int 1)), hrun, hended, rfl, ⟨_, rfl⟩, hW, hframe⟩
  jvm_step X.here [X.here.top, hx, hb, hdg, hmeth', hr, ret, narrow_b1]
  (try refine ⟨rfl, ?_⟩); (try refine ⟨rfl, ?_⟩)
  first | (intro acts; rw [hret _ acts rfl rfl rfl]) | rw [hret _ _ rfl rfl rfl]
  exact Steps.refl _
/-- what holds at the law's entry: the machine, the code, the tables' words (any of lw_tbl by 'hts w (by decide +kernel)'), the script of L ints xs at the cell b, what the Statement gives of the start (any of its parts by flat_of_before) -/
def lw_At (p : Program) (s : State) (m : MethodId) (meth : Method) (c : Code) (b L : Nat) (xs : Nat → Int32) : Prop :=
  p.tables.exec = Jvm.exec ∧ c.code = code ∧ meth.sig.returnType = ret ∧ c.maxLocals = 4 ∧ s.vm.findClass R_law = some m.cls ∧ (∀ w ∈ lw_tbl, w.before #[Value.ref b] s = true) ∧ va_X b L xs s s.heap ∧ b < s.heap.size ∧ meth.locks = false ∧ (Jvm.Cond.and given_1 narrow_1).before #[Value.ref b] s = true
abbrev XS : Type := (Nat → Int32) × (Nat → Nat → Int32) × (Nat → Nat → Int64)
def lA (s : State) : Nat → Prop := fun q => s.heap.size ≤ q
def WX (g : GG) (qx : Nat) (u : Nat → Nat) (x : XS) : va_W := [(qx, .inr (11, [.ref (u 0), .ref (u 17), .ref (u 31), .ref (u 32), .ref (u 33), .ref (u 34), .ref (u 35), .ref (u 36), .ref (u 37), .ref (u 38), .ref (u 39)])), (u 0, .inr (1, [.ref (u 1), .ref (u 3), .int (x.1 0), .int (x.1 1), .int (x.1 2)])), (u 1, .inr (9, [.ref (u 2), .int (x.1 3), .int (x.1 4), .int (x.1 5), .int (x.1 6), .int (x.1 7)])), (u 2, .inl (g.2 1, 900, .inl (x.2.1 0))), (u 3, .inr (0, [.int (x.1 8), .int (x.1 9), .int (x.1 10), .int (x.1 11), .int (x.1 12), .int (x.1 13), .int (x.1 14), .int (x.1 15), .int (x.1 16), .int (x.1 17), .ref (u 4), .ref (u 5), .ref (u 6), .ref (u 7), .ref (u 8), .ref (u 9), .ref (u 10), .ref (u 11), .ref (u 12), .ref (u 13)])), (u 4, .inl (g.2 0, 8, .inl (x.2.1 1))), (u 5, .inl (g.2 0, 32, .inl (x.2.1 2))), (u 6, .inl (g.2 0, 4, .inl (x.2.1 3))), (u 7, .inl (g.2 0, 4, .inl (x.2.1 4))), (u 8, .inl (g.2 0, 8, .inl (x.2.1 5))), (u 9, .inl (g.2 0, 8, .inl (x.2.1 6))), (u 10, .inl (g.2 0, 4, .inl (x.2.1 7))), (u 11, .inl (g.2 0, 20, .inl (x.2.1 8))), (u 12, .inl (g.2 0, 6, .inl (x.2.1 9))), (u 13, .inr (3, [.ref (u 14), .ref (u 15), .ref (u 16), .int (x.1 18)])), (u 14, .inl (g.2 0, 60, .inl (x.2.1 10))), (u 15, .inl (g.2 0, 60, .inl (x.2.1 11))), (u 16, .inl (g.2 0, 60, .inl (x.2.1 12))), (u 17, .inr (0, [.int (x.1 19), .int (x.1 20), .int (x.1 21), .int (x.1 22), .int (x.1 23), .int (x.1 24), .int (x.1 25), .int (x.1 26), .int (x.1 27), .int (x.1 28), .ref (u 18), .ref (u 19), .ref (u 20), .ref (u 21), .ref (u 22), .ref (u 23), .ref (u 24), .ref (u 25), .ref (u 26), .ref (u 27)])), (u 18, .inl (g.2 0, 8, .inl (x.2.1 13))), (u 19, .inl (g.2 0, 32, .inl (x.2.1 14))), (u 20, .inl (g.2 0, 4, .inl (x.2.1 15))), (u 21, .inl (g.2 0, 4, .inl (x.2.1 16))), (u 22, .inl (g.2 0, 8, .inl (x.2.1 17))), (u 23, .inl (g.2 0, 8, .inl (x.2.1 18))), (u 24, .inl (g.2 0, 4, .inl (x.2.1 19))), (u 25, .inl (g.2 0, 20, .inl (x.2.1 20))), (u 26, .inl (g.2 0, 6, .inl (x.2.1 21))), (u 27, .inr (3, [.ref (u 28), .ref (u 29), .ref (u 30), .int (x.1 29)])), (u 28, .inl (g.2 0, 60, .inl (x.2.1 22))), (u 29, .inl (g.2 0, 60, .inl (x.2.1 23))), (u 30, .inl (g.2 0, 60, .inl (x.2.1 24))), (u 31, .inl (g.2 4, 3, .inr (.inr (.inr (.inr (va_up (va_up (va_up (fun _ => none) 0 (some (u 40))) 1 (some (u 54))) 2 (some (u 68)))))))), (u 32, .inl (g.2 2, 3, .inl (x.2.1 25))), (u 40, .inr (0, [.int (x.1 30), .int (x.1 31), .int (x.1 32), .int (x.1 33), .int (x.1 34), .int (x.1 35), .int (x.1 36), .int (x.1 37), .int (x.1 38), .int (x.1 39), .ref (u 41), .ref (u 42), .ref (u 43), .ref (u 44), .ref (u 45), .ref (u 46), .ref (u 47), .ref (u 48), .ref (u 49), .ref (u 50)])), (u 41, .inl (g.2 0, 8, .inl (x.2.1 26))), (u 42, .inl (g.2 0, 32, .inl (x.2.1 27))), (u 43, .inl (g.2 0, 4, .inl (x.2.1 28))), (u 44, .inl (g.2 0, 4, .inl (x.2.1 29))), (u 45, .inl (g.2 0, 8, .inl (x.2.1 30))), (u 46, .inl (g.2 0, 8, .inl (x.2.1 31))), (u 47, .inl (g.2 0, 4, .inl (x.2.1 32))), (u 48, .inl (g.2 0, 20, .inl (x.2.1 33))), (u 49, .inl (g.2 0, 6, .inl (x.2.1 34))), (u 50, .inr (3, [.ref (u 51), .ref (u 52), .ref (u 53), .int (x.1 40)])), (u 51, .inl (g.2 0, 60, .inl (x.2.1 35))), (u 52, .inl (g.2 0, 60, .inl (x.2.1 36))), (u 53, .inl (g.2 0, 60, .inl (x.2.1 37))), (u 54, .inr (0, [.int (x.1 41), .int (x.1 42), .int (x.1 43), .int (x.1 44), .int (x.1 45), .int (x.1 46), .int (x.1 47), .int (x.1 48), .int (x.1 49), .int (x.1 50), .ref (u 55), .ref (u 56), .ref (u 57), .ref (u 58), .ref (u 59), .ref (u 60), .ref (u 61), .ref (u 62), .ref (u 63), .ref (u 64)])), (u 55, .inl (g.2 0, 8, .inl (x.2.1 38))), (u 56, .inl (g.2 0, 32, .inl (x.2.1 39))), (u 57, .inl (g.2 0, 4, .inl (x.2.1 40))), (u 58, .inl (g.2 0, 4, .inl (x.2.1 41))), (u 59, .inl (g.2 0, 8, .inl (x.2.1 42))), (u 60, .inl (g.2 0, 8, .inl (x.2.1 43))), (u 61, .inl (g.2 0, 4, .inl (x.2.1 44))), (u 62, .inl (g.2 0, 20, .inl (x.2.1 45))), (u 63, .inl (g.2 0, 6, .inl (x.2.1 46))), (u 64, .inr (3, [.ref (u 65), .ref (u 66), .ref (u 67), .int (x.1 51)])), (u 65, .inl (g.2 0, 60, .inl (x.2.1 47))), (u 66, .inl (g.2 0, 60, .inl (x.2.1 48))), (u 67, .inl (g.2 0, 60, .inl (x.2.1 49))), (u 68, .inr (0, [.int (x.1 52), .int (x.1 53), .int (x.1 54), .int (x.1 55), .int (x.1 56), .int (x.1 57), .int (x.1 58), .int (x.1 59), .int (x.1 60), .int (x.1 61), .ref (u 69), .ref (u 70), .ref (u 71), .ref (u 72), .ref (u 73), .ref (u 74), .ref (u 75), .ref (u 76), .ref (u 77), .ref (u 78)])), (u 69, .inl (g.2 0, 8, .inl (x.2.1 50))), (u 70, .inl (g.2 0, 32, .inl (x.2.1 51))), (u 71, .inl (g.2 0, 4, .inl (x.2.1 52))), (u 72, .inl (g.2 0, 4, .inl (x.2.1 53))), (u 73, .inl (g.2 0, 8, .inl (x.2.1 54))), (u 74, .inl (g.2 0, 8, .inl (x.2.1 55))), (u 75, .inl (g.2 0, 4, .inl (x.2.1 56))), (u 76, .inl (g.2 0, 20, .inl (x.2.1 57))), (u 77, .inl (g.2 0, 6, .inl (x.2.1 58))), (u 78, .inr (3, [.ref (u 79), .ref (u 80), .ref (u 81), .int (x.1 62)])), (u 79, .inl (g.2 0, 60, .inl (x.2.1 59))), (u 80, .inl (g.2 0, 60, .inl (x.2.1 60))), (u 81, .inl (g.2 0, 60, .inl (x.2.1 61))), (u 33, .inl (g.2 5, 4, .inr (.inr (.inr (.inr (va_up (va_up (va_up (va_up (fun _ => none) 0 (some (u 82))) 1 (some (u 83))) 2 (some (u 84))) 3 (some (u 85)))))))), (u 82, .inr (8, [.ref (u 86), .int (x.1 63), .int (x.1 64), .int (x.1 65)])), (u 86, .inl (g.2 3, 60, .inr (.inl (x.2.2 0)))), (u 83, .inr (8, [.ref (u 87), .int (x.1 66), .int (x.1 67), .int (x.1 68)])), (u 87, .inl (g.2 3, 60, .inr (.inl (x.2.2 1)))), (u 84, .inr (8, [.ref (u 88), .int (x.1 69), .int (x.1 70), .int (x.1 71)])), (u 88, .inl (g.2 3, 60, .inr (.inl (x.2.2 2)))), (u 85, .inr (8, [.ref (u 89), .int (x.1 72), .int (x.1 73), .int (x.1 74)])), (u 89, .inl (g.2 3, 60, .inr (.inl (x.2.2 3)))), (u 34, .inr (10, [.ref (u 90), .ref (u 91), .ref (u 92), .ref (u 93), .ref (u 94), .int (x.1 75), .int (x.1 76), .int (x.1 77), .int (x.1 78), .int (x.1 79)])), (u 90, .inl (g.2 0, 10, .inl (x.2.1 62))), (u 91, .inl (g.2 0, 10, .inl (x.2.1 63))), (u 92, .inl (g.2 0, 10, .inl (x.2.1 64))), (u 93, .inl (g.2 0, 6, .inl (x.2.1 65))), (u 94, .inl (g.2 0, 6, .inl (x.2.1 66))), (u 35, .inr (4, [.ref (u 95)])), (u 95, .inl (g.2 0, 256, .inl (x.2.1 67))), (u 36, .inr (6, [.ref (u 96), .ref (u 97), .int (x.1 80)])), (u 96, .inl (g.2 0, 256, .inl (x.2.1 68))), (u 97, .inl (g.2 0, 256, .inl (x.2.1 69))), (u 37, .inr (5, [.ref (u 98), .ref (u 99), .int (x.1 81), .int (x.1 82), .int (x.1 83)])), (u 98, .inl (g.2 0, 2816, .inl (x.2.1 70))), (u 99, .inl (g.2 0, 10, .inl (x.2.1 71))), (u 38, .inr (7, [.ref (u 100), .ref (u 101), .int (x.1 84), .int (x.1 85)])), (u 100, .inl (g.2 0, 256, .inl (x.2.1 72))), (u 101, .inl (g.2 0, 256, .inl (x.2.1 73))), (u 39, .inr (2, [.ref (u 102), .ref (u 103), .ref (u 104), .int (x.1 86)])), (u 102, .inl (g.2 0, 6, .inl (x.2.1 74))), (u 103, .inl (g.2 0, 6, .inl (x.2.1 75))), (u 104, .inl (g.2 0, 4, .inl (x.2.1 76)))]
def OX (x : XS) : Prop := (0 ≤ (x.1 3).toInt ∧ (x.1 3).toInt ≤ 900) ∧ (0 ≤ (x.1 5).toInt ∧ (x.1 5).toInt ≤ 900) ∧ (0 ≤ (x.1 6).toInt ∧ (x.1 6).toInt ≤ 900) ∧ (0 ≤ (x.1 8).toInt ∧ (x.1 8).toInt ≤ 8) ∧ (0 ≤ (x.1 9).toInt ∧ (x.1 9).toInt ≤ 7) ∧ (0 ≤ (x.1 10).toInt ∧ (x.1 10).toInt ≤ 10) ∧ (0 ≤ (x.1 14).toInt ∧ (x.1 14).toInt ≤ 4) ∧ (0 ≤ (x.1 15).toInt ∧ (x.1 15).toInt ≤ 8) ∧ (0 ≤ (x.1 16).toInt ∧ (x.1 16).toInt ≤ 4) ∧ (0 ≤ (x.1 17).toInt ∧ (x.1 17).toInt ≤ 6) ∧ (ab (x.2.1 6) 8 0 255) ∧ (ab (x.2.1 7) 4 0 5) ∧ (0 ≤ (x.1 18).toInt ∧ (x.1 18).toInt ≤ 60) ∧ (0 ≤ (x.1 19).toInt ∧ (x.1 19).toInt ≤ 8) ∧ (0 ≤ (x.1 20).toInt ∧ (x.1 20).toInt ≤ 7) ∧ (0 ≤ (x.1 21).toInt ∧ (x.1 21).toInt ≤ 10) ∧ (0 ≤ (x.1 25).toInt ∧ (x.1 25).toInt ≤ 4) ∧ (0 ≤ (x.1 26).toInt ∧ (x.1 26).toInt ≤ 8) ∧ (0 ≤ (x.1 27).toInt ∧ (x.1 27).toInt ≤ 4) ∧ (0 ≤ (x.1 28).toInt ∧ (x.1 28).toInt ≤ 6) ∧ (ab (x.2.1 18) 8 0 255) ∧ (ab (x.2.1 19) 4 0 5) ∧ (0 ≤ (x.1 29).toInt ∧ (x.1 29).toInt ≤ 60) ∧ (0 ≤ (x.1 30).toInt ∧ (x.1 30).toInt ≤ 8) ∧ (0 ≤ (x.1 31).toInt ∧ (x.1 31).toInt ≤ 7) ∧ (0 ≤ (x.1 32).toInt ∧ (x.1 32).toInt ≤ 10) ∧ (0 ≤ (x.1 36).toInt ∧ (x.1 36).toInt ≤ 4) ∧ (0 ≤ (x.1 37).toInt ∧ (x.1 37).toInt ≤ 8) ∧ (0 ≤ (x.1 38).toInt ∧ (x.1 38).toInt ≤ 4) ∧ (0 ≤ (x.1 39).toInt ∧ (x.1 39).toInt ≤ 6) ∧ (ab (x.2.1 31) 8 0 255) ∧ (ab (x.2.1 32) 4 0 5) ∧ (0 ≤ (x.1 40).toInt ∧ (x.1 40).toInt ≤ 60) ∧ (0 ≤ (x.1 41).toInt ∧ (x.1 41).toInt ≤ 8) ∧ (0 ≤ (x.1 42).toInt ∧ (x.1 42).toInt ≤ 7) ∧ (0 ≤ (x.1 43).toInt ∧ (x.1 43).toInt ≤ 10) ∧ (0 ≤ (x.1 47).toInt ∧ (x.1 47).toInt ≤ 4) ∧ (0 ≤ (x.1 48).toInt ∧ (x.1 48).toInt ≤ 8) ∧ (0 ≤ (x.1 49).toInt ∧ (x.1 49).toInt ≤ 4) ∧ (0 ≤ (x.1 50).toInt ∧ (x.1 50).toInt ≤ 6) ∧ (ab (x.2.1 43) 8 0 255) ∧ (ab (x.2.1 44) 4 0 5) ∧ (0 ≤ (x.1 51).toInt ∧ (x.1 51).toInt ≤ 60) ∧ (0 ≤ (x.1 52).toInt ∧ (x.1 52).toInt ≤ 8) ∧ (0 ≤ (x.1 53).toInt ∧ (x.1 53).toInt ≤ 7) ∧ (0 ≤ (x.1 54).toInt ∧ (x.1 54).toInt ≤ 10) ∧ (0 ≤ (x.1 58).toInt ∧ (x.1 58).toInt ≤ 4) ∧ (0 ≤ (x.1 59).toInt ∧ (x.1 59).toInt ≤ 8) ∧ (0 ≤ (x.1 60).toInt ∧ (x.1 60).toInt ≤ 4) ∧ (0 ≤ (x.1 61).toInt ∧ (x.1 61).toInt ≤ 6) ∧ (ab (x.2.1 55) 8 0 255) ∧ (ab (x.2.1 56) 4 0 5) ∧ (0 ≤ (x.1 62).toInt ∧ (x.1 62).toInt ≤ 60) ∧ (0 ≤ (x.1 63).toInt ∧ (x.1 63).toInt ≤ 1) ∧ (0 ≤ (x.1 64).toInt ∧ (x.1 64).toInt ≤ 3) ∧ (0 ≤ (x.1 65).toInt ∧ (x.1 65).toInt ≤ 60) ∧ (0 ≤ (x.1 66).toInt ∧ (x.1 66).toInt ≤ 1) ∧ (0 ≤ (x.1 67).toInt ∧ (x.1 67).toInt ≤ 3) ∧ (0 ≤ (x.1 68).toInt ∧ (x.1 68).toInt ≤ 60) ∧ (0 ≤ (x.1 69).toInt ∧ (x.1 69).toInt ≤ 1) ∧ (0 ≤ (x.1 70).toInt ∧ (x.1 70).toInt ≤ 3) ∧ (0 ≤ (x.1 71).toInt ∧ (x.1 71).toInt ≤ 60) ∧ (0 ≤ (x.1 72).toInt ∧ (x.1 72).toInt ≤ 1) ∧ (0 ≤ (x.1 73).toInt ∧ (x.1 73).toInt ≤ 3) ∧ (0 ≤ (x.1 74).toInt ∧ (x.1 74).toInt ≤ 60) ∧ (0 ≤ (x.1 75).toInt ∧ (x.1 75).toInt ≤ 10) ∧ (-1 ≤ (x.1 78).toInt ∧ (x.1 78).toInt ≤ 9) ∧ (-1 ≤ (x.1 79).toInt ∧ (x.1 79).toInt ≤ 31) ∧ (ab (x.2.1 62) 10 0 8) ∧ (ab (x.2.1 63) 10 0 255) ∧ (ab (x.2.1 65) 6 0 5) ∧ (0 ≤ (x.1 80).toInt ∧ (x.1 80).toInt ≤ 256) ∧ (ab (x.2.1 68) 256 0 255) ∧ (0 ≤ (x.1 82).toInt ∧ (x.1 82).toInt ≤ 1) ∧ (0 ≤ (x.1 83).toInt ∧ (x.1 83).toInt ≤ 1) ∧ (ab (x.2.1 71) 10 0 8) ∧ (ab (x.2.1 74) 6 0 3) ∧ (lgok (x.2.1 10) (x.2.1 11) (x.2.1 12)) ∧ (lgok (x.2.1 22) (x.2.1 23) (x.2.1 24)) ∧ (lgok (x.2.1 35) (x.2.1 36) (x.2.1 37)) ∧ (lgok (x.2.1 47) (x.2.1 48) (x.2.1 49)) ∧ (lgok (x.2.1 59) (x.2.1 60) (x.2.1 61))
theorem ox_0 {x : XS} (h : OX x) : 0 ≤ (x.1 3).toInt ∧ (x.1 3).toInt ≤ 900 := h.1
theorem ox_1 {x : XS} (h : OX x) : 0 ≤ (x.1 5).toInt ∧ (x.1 5).toInt ≤ 900 := h.2.1
theorem ox_2 {x : XS} (h : OX x) : 0 ≤ (x.1 6).toInt ∧ (x.1 6).toInt ≤ 900 := h.2.2.1
theorem ox_3 {x : XS} (h : OX x) : 0 ≤ (x.1 8).toInt ∧ (x.1 8).toInt ≤ 8 := h.2.2.2.1
theorem ox_4 {x : XS} (h : OX x) : 0 ≤ (x.1 9).toInt ∧ (x.1 9).toInt ≤ 7 := h.2.2.2.2.1
theorem ox_5 {x : XS} (h : OX x) : 0 ≤ (x.1 10).toInt ∧ (x.1 10).toInt ≤ 10 := h.2.2.2.2.2.1
theorem ox_6 {x : XS} (h : OX x) : 0 ≤ (x.1 14).toInt ∧ (x.1 14).toInt ≤ 4 := h.2.2.2.2.2.2.1
theorem ox_7 {x : XS} (h : OX x) : 0 ≤ (x.1 15).toInt ∧ (x.1 15).toInt ≤ 8 := h.2.2.2.2.2.2.2.1
theorem ox_8 {x : XS} (h : OX x) : 0 ≤ (x.1 16).toInt ∧ (x.1 16).toInt ≤ 4 := h.2.2.2.2.2.2.2.2.1
theorem ox_9 {x : XS} (h : OX x) : 0 ≤ (x.1 17).toInt ∧ (x.1 17).toInt ≤ 6 := h.2.2.2.2.2.2.2.2.2.1
theorem ox_10 {x : XS} (h : OX x) : ab (x.2.1 6) 8 0 255 := h.2.2.2.2.2.2.2.2.2.2.1
theorem ox_11 {x : XS} (h : OX x) : ab (x.2.1 7) 4 0 5 := h.2.2.2.2.2.2.2.2.2.2.2.1
theorem ox_12 {x : XS} (h : OX x) : 0 ≤ (x.1 18).toInt ∧ (x.1 18).toInt ≤ 60 := h.2.2.2.2.2.2.2.2.2.2.2.2.1
theorem ox_13 {x : XS} (h : OX x) : 0 ≤ (x.1 19).toInt ∧ (x.1 19).toInt ≤ 8 := h.2.2.2.2.2.2.2.2.2.2.2.2.2.1
theorem ox_14 {x : XS} (h : OX x) : 0 ≤ (x.1 20).toInt ∧ (x.1 20).toInt ≤ 7 := h.2.2.2.2.2.2.2.2.2.2.2.2.2.2.1
theorem ox_15 {x : XS} (h : OX x) : 0 ≤ (x.1 21).toInt ∧ (x.1 21).toInt ≤ 10 := h.2.2.2.2.2.2.2.2.2.2.2.2.2.2.2.1
theorem ox_16 {x : XS} (h : OX x) : 0 ≤ (x.1 25).toInt ∧ (x.1 25).toInt ≤ 4 := h.2.2.2.2.2.2.2.2.2.2.2.2.2.2.2.2.1
theorem ox_17 {x : XS} (h : OX x) : 0 ≤ (x.1 26).toInt ∧ (x.1 26).toInt ≤ 8 := h.2.2.2.2.2.2.2.2.2.2.2.2.2.2.2.2.2.1
theorem ox_18 {x : XS} (h : OX x) : 0 ≤ (x.1 27).toInt ∧ (x.1 27).toInt ≤ 4 := h.2.2.2.2.2.2.2.2.2.2.2.2.2.2.2.2.2.2.1
theorem ox_19 {x : XS} (h : OX x) : 0 ≤ (x.1 28).toInt ∧ (x.1 28).toInt ≤ 6 := h.2.2.2.2.2.2.2.2.2.2.2.2.2.2.2.2.2.2.2.1
theorem ox_20 {x : XS} (h : OX x) : ab (x.2.1 18) 8 0 255 := h.2.2.2.2.2.2.2.2.2.2.2.2.2.2.2.2.2.2.2.2.1
theorem ox_21 {x : XS} (h : OX x) : ab (x.2.1 19) 4 0 5 := h.2.2.2.2.2.2.2.2.2.2.2.2.2.2.2.2.2.2.2.2.2.1
theorem ox_22 {x : XS} (h : OX x) : 0 ≤ (x.1 29).toInt ∧ (x.1 29).toInt ≤ 60 := h.2.2.2.2.2.2.2.2.2.2.2.2.2.2.2.2.2.2.2.2.2.2.1
theorem ox_23 {x : XS} (h : OX x) : 0 ≤ (x.1 30).toInt ∧ (x.1 30).toInt ≤ 8 := h.2.2.2.2.2.2.2.2.2.2.2.2.2.2.2.2.2.2.2.2.2.2.2.1
theorem ox_24 {x : XS} (h : OX x) : 0 ≤ (x.1 31).toInt ∧ (x.1 31).toInt ≤ 7 := h.2.2.2.2.2.2.2.2.2.2.2.2.2.2.2.2.2.2.2.2.2.2.2.2.1
theorem ox_25 {x : XS} (h : OX x) : 0 ≤ (x.1 32).toInt ∧ (x.1 32).toInt ≤ 10 := h.2.2.2.2.2.2.2.2.2.2.2.2.2.2.2.2.2.2.2.2.2.2.2.2.2.1
theorem ox_26 {x : XS} (h : OX x) : 0 ≤ (x.1 36).toInt ∧ (x.1 36).toInt ≤ 4 := h.2.2.2.2.2.2.2.2.2.2.2.2.2.2.2.2.2.2.2.2.2.2.2.2.2.2.1
theorem ox_27 {x : XS} (h : OX x) : 0 ≤ (x.1 37).toInt ∧ (x.1 37).toInt ≤ 8 := h.2.2.2.2.2.2.2.2.2.2.2.2.2.2.2.2.2.2.2.2.2.2.2.2.2.2.2.1
theorem ox_28 {x : XS} (h : OX x) : 0 ≤ (x.1 38).toInt ∧ (x.1 38).toInt ≤ 4 := h.2.2.2.2.2.2.2.2.2.2.2.2.2.2.2.2.2.2.2.2.2.2.2.2.2.2.2.2.1
theorem ox_29 {x : XS} (h : OX x) : 0 ≤ (x.1 39).toInt ∧ (x.1 39).toInt ≤ 6 := h.2.2.2.2.2.2.2.2.2.2.2.2.2.2.2.2.2.2.2.2.2.2.2.2.2.2.2.2.2.1
theorem ox_30 {x : XS} (h : OX x) : ab (x.2.1 31) 8 0 255 := h.2.2.2.2.2.2.2.2.2.2.2.2.2.2.2.2.2.2.2.2.2.2.2.2.2.2.2.2.2.2.1
theorem ox_31 {x : XS} (h : OX x) : ab (x.2.1 32) 4 0 5 := h.2.2.2.2.2.2.2.2.2.2.2.2.2.2.2.2.2.2.2.2.2.2.2.2.2.2.2.2.2.2.2.1
theorem ox_32 {x : XS} (h : OX x) : 0 ≤ (x.1 40).toInt ∧ (x.1 40).toInt ≤ 60 := h.2.2.2.2.2.2.2.2.2.2.2.2.2.2.2.2.2.2.2.2.2.2.2.2.2.2.2.2.2.2.2.2.1
theorem ox_33 {x : XS} (h : OX x) : 0 ≤ (x.1 41).toInt ∧ (x.1 41).toInt ≤ 8 := h.2.2.2.2.2.2.2.2.2.2.2.2.2.2.2.2.2.2.2.2.2.2.2.2.2.2.2.2.2.2.2.2.2.1
theorem ox_34 {x : XS} (h : OX x) : 0 ≤ (x.1 42).toInt ∧ (x.1 42).toInt ≤ 7 := h.2.2.2.2.2.2.2.2.2.2.2.2.2.2.2.2.2.2.2.2.2.2.2.2.2.2.2.2.2.2.2.2.2.2.1
theorem ox_35 {x : XS} (h : OX x) : 0 ≤ (x.1 43).toInt ∧ (x.1 43).toInt ≤ 10 := h.2.2.2.2.2.2.2.2.2.2.2.2.2.2.2.2.2.2.2.2.2.2.2.2.2.2.2.2.2.2.2.2.2.2.2.1
theorem ox_36 {x : XS} (h : OX x) : 0 ≤ (x.1 47).toInt ∧ (x.1 47).toInt ≤ 4 := h.2.2.2.2.2.2.2.2.2.2.2.2.2.2.2.2.2.2.2.2.2.2.2.2.2.2.2.2.2.2.2.2.2.2.2.2.1
theorem ox_37 {x : XS} (h : OX x) : 0 ≤ (x.1 48).toInt ∧ (x.1 48).toInt ≤ 8 := h.2.2.2.2.2.2.2.2.2.2.2.2.2.2.2.2.2.2.2.2.2.2.2.2.2.2.2.2.2.2.2.2.2.2.2.2.2.1
theorem ox_38 {x : XS} (h : OX x) : 0 ≤ (x.1 49).toInt ∧ (x.1 49).toInt ≤ 4 := h.2.2.2.2.2.2.2.2.2.2.2.2.2.2.2.2.2.2.2.2.2.2.2.2.2.2.2.2.2.2.2.2.2.2.2.2.2.2.1
theorem ox_39 {x : XS} (h : OX x) : 0 ≤ (x.1 50).toInt ∧ (x.1 50).toInt ≤ 6 := h.2.2.2.2.2.2.2.2.2.2.2.2.2.2.2.2.2.2.2.2.2.2.2.2.2.2.2.2.2.2.2.2.2.2.2.2.2.2.2.1
theorem ox_40 {x : XS} (h : OX x) : ab (x.2.1 43) 8 0 255 := h.2.2.2.2.2.2.2.2.2.2.2.2.2.2.2.2.2.2.2.2.2.2.2.2.2.2.2.2.2.2.2.2.2.2.2.2.2.2.2.2.1
theorem ox_41 {x : XS} (h : OX x) : ab (x.2.1 44) 4 0 5 := h.2.2.2.2.2.2.2.2.2.2.2.2.2.2.2.2.2.2.2.2.2.2.2.2.2.2.2.2.2.2.2.2.2.2.2.2.2.2.2.2.2.1
theorem ox_42 {x : XS} (h : OX x) : 0 ≤ (x.1 51).toInt ∧ (x.1 51).toInt ≤ 60 := h.2.2.2.2.2.2.2.2.2.2.2.2.2.2.2.2.2.2.2.2.2.2.2.2.2.2.2.2.2.2.2.2.2.2.2.2.2.2.2.2.2.2.1
theorem ox_43 {x : XS} (h : OX x) : 0 ≤ (x.1 52).toInt ∧ (x.1 52).toInt ≤ 8 := h.2.2.2.2.2.2.2.2.2.2.2.2.2.2.2.2.2.2.2.2.2.2.2.2.2.2.2.2.2.2.2.2.2.2.2.2.2.2.2.2.2.2.2.1
theorem ox_44 {x : XS} (h : OX x) : 0 ≤ (x.1 53).toInt ∧ (x.1 53).toInt ≤ 7 := h.2.2.2.2.2.2.2.2.2.2.2.2.2.2.2.2.2.2.2.2.2.2.2.2.2.2.2.2.2.2.2.2.2.2.2.2.2.2.2.2.2.2.2.2.1
theorem ox_45 {x : XS} (h : OX x) : 0 ≤ (x.1 54).toInt ∧ (x.1 54).toInt ≤ 10 := h.2.2.2.2.2.2.2.2.2.2.2.2.2.2.2.2.2.2.2.2.2.2.2.2.2.2.2.2.2.2.2.2.2.2.2.2.2.2.2.2.2.2.2.2.2.1
theorem ox_46 {x : XS} (h : OX x) : 0 ≤ (x.1 58).toInt ∧ (x.1 58).toInt ≤ 4 := h.2.2.2.2.2.2.2.2.2.2.2.2.2.2.2.2.2.2.2.2.2.2.2.2.2.2.2.2.2.2.2.2.2.2.2.2.2.2.2.2.2.2.2.2.2.2.1
theorem ox_47 {x : XS} (h : OX x) : 0 ≤ (x.1 59).toInt ∧ (x.1 59).toInt ≤ 8 := h.2.2.2.2.2.2.2.2.2.2.2.2.2.2.2.2.2.2.2.2.2.2.2.2.2.2.2.2.2.2.2.2.2.2.2.2.2.2.2.2.2.2.2.2.2.2.2.1
theorem ox_48 {x : XS} (h : OX x) : 0 ≤ (x.1 60).toInt ∧ (x.1 60).toInt ≤ 4 := h.2.2.2.2.2.2.2.2.2.2.2.2.2.2.2.2.2.2.2.2.2.2.2.2.2.2.2.2.2.2.2.2.2.2.2.2.2.2.2.2.2.2.2.2.2.2.2.2.1
theorem ox_49 {x : XS} (h : OX x) : 0 ≤ (x.1 61).toInt ∧ (x.1 61).toInt ≤ 6 := h.2.2.2.2.2.2.2.2.2.2.2.2.2.2.2.2.2.2.2.2.2.2.2.2.2.2.2.2.2.2.2.2.2.2.2.2.2.2.2.2.2.2.2.2.2.2.2.2.2.1
theorem ox_50 {x : XS} (h : OX x) : ab (x.2.1 55) 8 0 255 := h.2.2.2.2.2.2.2.2.2.2.2.2.2.2.2.2.2.2.2.2.2.2.2.2.2.2.2.2.2.2.2.2.2.2.2.2.2.2.2.2.2.2.2.2.2.2.2.2.2.2.1
theorem ox_51 {x : XS} (h : OX x) : ab (x.2.1 56) 4 0 5 := h.2.2.2.2.2.2.2.2.2.2.2.2.2.2.2.2.2.2.2.2.2.2.2.2.2.2.2.2.2.2.2.2.2.2.2.2.2.2.2.2.2.2.2.2.2.2.2.2.2.2.2.1
theorem ox_52 {x : XS} (h : OX x) : 0 ≤ (x.1 62).toInt ∧ (x.1 62).toInt ≤ 60 := h.2.2.2.2.2.2.2.2.2.2.2.2.2.2.2.2.2.2.2.2.2.2.2.2.2.2.2.2.2.2.2.2.2.2.2.2.2.2.2.2.2.2.2.2.2.2.2.2.2.2.2.2.1
theorem ox_53 {x : XS} (h : OX x) : 0 ≤ (x.1 63).toInt ∧ (x.1 63).toInt ≤ 1 := h.2.2.2.2.2.2.2.2.2.2.2.2.2.2.2.2.2.2.2.2.2.2.2.2.2.2.2.2.2.2.2.2.2.2.2.2.2.2.2.2.2.2.2.2.2.2.2.2.2.2.2.2.2.1
theorem ox_54 {x : XS} (h : OX x) : 0 ≤ (x.1 64).toInt ∧ (x.1 64).toInt ≤ 3 := h.2.2.2.2.2.2.2.2.2.2.2.2.2.2.2.2.2.2.2.2.2.2.2.2.2.2.2.2.2.2.2.2.2.2.2.2.2.2.2.2.2.2.2.2.2.2.2.2.2.2.2.2.2.2.1
theorem ox_55 {x : XS} (h : OX x) : 0 ≤ (x.1 65).toInt ∧ (x.1 65).toInt ≤ 60 := h.2.2.2.2.2.2.2.2.2.2.2.2.2.2.2.2.2.2.2.2.2.2.2.2.2.2.2.2.2.2.2.2.2.2.2.2.2.2.2.2.2.2.2.2.2.2.2.2.2.2.2.2.2.2.2.1
theorem ox_56 {x : XS} (h : OX x) : 0 ≤ (x.1 66).toInt ∧ (x.1 66).toInt ≤ 1 := h.2.2.2.2.2.2.2.2.2.2.2.2.2.2.2.2.2.2.2.2.2.2.2.2.2.2.2.2.2.2.2.2.2.2.2.2.2.2.2.2.2.2.2.2.2.2.2.2.2.2.2.2.2.2.2.2.1
theorem ox_57 {x : XS} (h : OX x) : 0 ≤ (x.1 67).toInt ∧ (x.1 67).toInt ≤ 3 := h.2.2.2.2.2.2.2.2.2.2.2.2.2.2.2.2.2.2.2.2.2.2.2.2.2.2.2.2.2.2.2.2.2.2.2.2.2.2.2.2.2.2.2.2.2.2.2.2.2.2.2.2.2.2.2.2.2.1
theorem ox_58 {x : XS} (h : OX x) : 0 ≤ (x.1 68).toInt ∧ (x.1 68).toInt ≤ 60 := h.2.2.2.2.2.2.2.2.2.2.2.2.2.2.2.2.2.2.2.2.2.2.2.2.2.2.2.2.2.2.2.2.2.2.2.2.2.2.2.2.2.2.2.2.2.2.2.2.2.2.2.2.2.2.2.2.2.2.1
theorem ox_59 {x : XS} (h : OX x) : 0 ≤ (x.1 69).toInt ∧ (x.1 69).toInt ≤ 1 := h.2.2.2.2.2.2.2.2.2.2.2.2.2.2.2.2.2.2.2.2.2.2.2.2.2.2.2.2.2.2.2.2.2.2.2.2.2.2.2.2.2.2.2.2.2.2.2.2.2.2.2.2.2.2.2.2.2.2.2.1
theorem ox_60 {x : XS} (h : OX x) : 0 ≤ (x.1 70).toInt ∧ (x.1 70).toInt ≤ 3 := h.2.2.2.2.2.2.2.2.2.2.2.2.2.2.2.2.2.2.2.2.2.2.2.2.2.2.2.2.2.2.2.2.2.2.2.2.2.2.2.2.2.2.2.2.2.2.2.2.2.2.2.2.2.2.2.2.2.2.2.2.1
theorem ox_61 {x : XS} (h : OX x) : 0 ≤ (x.1 71).toInt ∧ (x.1 71).toInt ≤ 60 := h.2.2.2.2.2.2.2.2.2.2.2.2.2.2.2.2.2.2.2.2.2.2.2.2.2.2.2.2.2.2.2.2.2.2.2.2.2.2.2.2.2.2.2.2.2.2.2.2.2.2.2.2.2.2.2.2.2.2.2.2.2.1
theorem ox_62 {x : XS} (h : OX x) : 0 ≤ (x.1 72).toInt ∧ (x.1 72).toInt ≤ 1 := h.2.2.2.2.2.2.2.2.2.2.2.2.2.2.2.2.2.2.2.2.2.2.2.2.2.2.2.2.2.2.2.2.2.2.2.2.2.2.2.2.2.2.2.2.2.2.2.2.2.2.2.2.2.2.2.2.2.2.2.2.2.2.1
theorem ox_63 {x : XS} (h : OX x) : 0 ≤ (x.1 73).toInt ∧ (x.1 73).toInt ≤ 3 := h.2.2.2.2.2.2.2.2.2.2.2.2.2.2.2.2.2.2.2.2.2.2.2.2.2.2.2.2.2.2.2.2.2.2.2.2.2.2.2.2.2.2.2.2.2.2.2.2.2.2.2.2.2.2.2.2.2.2.2.2.2.2.2.1
theorem ox_64 {x : XS} (h : OX x) : 0 ≤ (x.1 74).toInt ∧ (x.1 74).toInt ≤ 60 := h.2.2.2.2.2.2.2.2.2.2.2.2.2.2.2.2.2.2.2.2.2.2.2.2.2.2.2.2.2.2.2.2.2.2.2.2.2.2.2.2.2.2.2.2.2.2.2.2.2.2.2.2.2.2.2.2.2.2.2.2.2.2.2.2.1
theorem ox_65 {x : XS} (h : OX x) : 0 ≤ (x.1 75).toInt ∧ (x.1 75).toInt ≤ 10 := h.2.2.2.2.2.2.2.2.2.2.2.2.2.2.2.2.2.2.2.2.2.2.2.2.2.2.2.2.2.2.2.2.2.2.2.2.2.2.2.2.2.2.2.2.2.2.2.2.2.2.2.2.2.2.2.2.2.2.2.2.2.2.2.2.2.1
theorem ox_66 {x : XS} (h : OX x) : -1 ≤ (x.1 78).toInt ∧ (x.1 78).toInt ≤ 9 := h.2.2.2.2.2.2.2.2.2.2.2.2.2.2.2.2.2.2.2.2.2.2.2.2.2.2.2.2.2.2.2.2.2.2.2.2.2.2.2.2.2.2.2.2.2.2.2.2.2.2.2.2.2.2.2.2.2.2.2.2.2.2.2.2.2.2.1
theorem ox_67 {x : XS} (h : OX x) : -1 ≤ (x.1 79).toInt ∧ (x.1 79).toInt ≤ 31 := h.2.2.2.2.2.2.2.2.2.2.2.2.2.2.2.2.2.2.2.2.2.2.2.2.2.2.2.2.2.2.2.2.2.2.2.2.2.2.2.2.2.2.2.2.2.2.2.2.2.2.2.2.2.2.2.2.2.2.2.2.2.2.2.2.2.2.2.1
theorem ox_68 {x : XS} (h : OX x) : ab (x.2.1 62) 10 0 8 := h.2.2.2.2.2.2.2.2.2.2.2.2.2.2.2.2.2.2.2.2.2.2.2.2.2.2.2.2.2.2.2.2.2.2.2.2.2.2.2.2.2.2.2.2.2.2.2.2.2.2.2.2.2.2.2.2.2.2.2.2.2.2.2.2.2.2.2.2.1
theorem ox_69 {x : XS} (h : OX x) : ab (x.2.1 63) 10 0 255 := h.2.2.2.2.2.2.2.2.2.2.2.2.2.2.2.2.2.2.2.2.2.2.2.2.2.2.2.2.2.2.2.2.2.2.2.2.2.2.2.2.2.2.2.2.2.2.2.2.2.2.2.2.2.2.2.2.2.2.2.2.2.2.2.2.2.2.2.2.2.1
theorem ox_70 {x : XS} (h : OX x) : ab (x.2.1 65) 6 0 5 := h.2.2.2.2.2.2.2.2.2.2.2.2.2.2.2.2.2.2.2.2.2.2.2.2.2.2.2.2.2.2.2.2.2.2.2.2.2.2.2.2.2.2.2.2.2.2.2.2.2.2.2.2.2.2.2.2.2.2.2.2.2.2.2.2.2.2.2.2.2.2.1
theorem ox_71 {x : XS} (h : OX x) : 0 ≤ (x.1 80).toInt ∧ (x.1 80).toInt ≤ 256 := h.2.2.2.2.2.2.2.2.2.2.2.2.2.2.2.2.2.2.2.2.2.2.2.2.2.2.2.2.2.2.2.2.2.2.2.2.2.2.2.2.2.2.2.2.2.2.2.2.2.2.2.2.2.2.2.2.2.2.2.2.2.2.2.2.2.2.2.2.2.2.2.1
theorem ox_72 {x : XS} (h : OX x) : ab (x.2.1 68) 256 0 255 := h.2.2.2.2.2.2.2.2.2.2.2.2.2.2.2.2.2.2.2.2.2.2.2.2.2.2.2.2.2.2.2.2.2.2.2.2.2.2.2.2.2.2.2.2.2.2.2.2.2.2.2.2.2.2.2.2.2.2.2.2.2.2.2.2.2.2.2.2.2.2.2.2.1
theorem ox_73 {x : XS} (h : OX x) : 0 ≤ (x.1 82).toInt ∧ (x.1 82).toInt ≤ 1 := h.2.2.2.2.2.2.2.2.2.2.2.2.2.2.2.2.2.2.2.2.2.2.2.2.2.2.2.2.2.2.2.2.2.2.2.2.2.2.2.2.2.2.2.2.2.2.2.2.2.2.2.2.2.2.2.2.2.2.2.2.2.2.2.2.2.2.2.2.2.2.2.2.2.1
theorem ox_74 {x : XS} (h : OX x) : 0 ≤ (x.1 83).toInt ∧ (x.1 83).toInt ≤ 1 := h.2.2.2.2.2.2.2.2.2.2.2.2.2.2.2.2.2.2.2.2.2.2.2.2.2.2.2.2.2.2.2.2.2.2.2.2.2.2.2.2.2.2.2.2.2.2.2.2.2.2.2.2.2.2.2.2.2.2.2.2.2.2.2.2.2.2.2.2.2.2.2.2.2.2.1
theorem ox_75 {x : XS} (h : OX x) : ab (x.2.1 71) 10 0 8 := h.2.2.2.2.2.2.2.2.2.2.2.2.2.2.2.2.2.2.2.2.2.2.2.2.2.2.2.2.2.2.2.2.2.2.2.2.2.2.2.2.2.2.2.2.2.2.2.2.2.2.2.2.2.2.2.2.2.2.2.2.2.2.2.2.2.2.2.2.2.2.2.2.2.2.2.1
theorem ox_76 {x : XS} (h : OX x) : ab (x.2.1 74) 6 0 3 := h.2.2.2.2.2.2.2.2.2.2.2.2.2.2.2.2.2.2.2.2.2.2.2.2.2.2.2.2.2.2.2.2.2.2.2.2.2.2.2.2.2.2.2.2.2.2.2.2.2.2.2.2.2.2.2.2.2.2.2.2.2.2.2.2.2.2.2.2.2.2.2.2.2.2.2.2.1
theorem ox_77 {x : XS} (h : OX x) : lgok (x.2.1 10) (x.2.1 11) (x.2.1 12) := h.2.2.2.2.2.2.2.2.2.2.2.2.2.2.2.2.2.2.2.2.2.2.2.2.2.2.2.2.2.2.2.2.2.2.2.2.2.2.2.2.2.2.2.2.2.2.2.2.2.2.2.2.2.2.2.2.2.2.2.2.2.2.2.2.2.2.2.2.2.2.2.2.2.2.2.2.2.1
theorem ox_78 {x : XS} (h : OX x) : lgok (x.2.1 22) (x.2.1 23) (x.2.1 24) := h.2.2.2.2.2.2.2.2.2.2.2.2.2.2.2.2.2.2.2.2.2.2.2.2.2.2.2.2.2.2.2.2.2.2.2.2.2.2.2.2.2.2.2.2.2.2.2.2.2.2.2.2.2.2.2.2.2.2.2.2.2.2.2.2.2.2.2.2.2.2.2.2.2.2.2.2.2.2.1
theorem ox_79 {x : XS} (h : OX x) : lgok (x.2.1 35) (x.2.1 36) (x.2.1 37) := h.2.2.2.2.2.2.2.2.2.2.2.2.2.2.2.2.2.2.2.2.2.2.2.2.2.2.2.2.2.2.2.2.2.2.2.2.2.2.2.2.2.2.2.2.2.2.2.2.2.2.2.2.2.2.2.2.2.2.2.2.2.2.2.2.2.2.2.2.2.2.2.2.2.2.2.2.2.2.2.1
theorem ox_80 {x : XS} (h : OX x) : lgok (x.2.1 47) (x.2.1 48) (x.2.1 49) := h.2.2.2.2.2.2.2.2.2.2.2.2.2.2.2.2.2.2.2.2.2.2.2.2.2.2.2.2.2.2.2.2.2.2.2.2.2.2.2.2.2.2.2.2.2.2.2.2.2.2.2.2.2.2.2.2.2.2.2.2.2.2.2.2.2.2.2.2.2.2.2.2.2.2.2.2.2.2.2.2.1
theorem ox_81 {x : XS} (h : OX x) : lgok (x.2.1 59) (x.2.1 60) (x.2.1 61) := h.2.2.2.2.2.2.2.2.2.2.2.2.2.2.2.2.2.2.2.2.2.2.2.2.2.2.2.2.2.2.2.2.2.2.2.2.2.2.2.2.2.2.2.2.2.2.2.2.2.2.2.2.2.2.2.2.2.2.2.2.2.2.2.2.2.2.2.2.2.2.2.2.2.2.2.2.2.2.2.2.2
def WM (g : GG) (qm : Nat) (v : Nat → Nat) (y : XS) : va_W := [(qm, .inr (12, [.int (y.1 0), .ref (v 0), .ref (v 1), .ref (v 2), .ref (v 3), .int (y.1 1), .ref (v 4), .int (y.1 2), .int (y.1 3), .int (y.1 4), .int (y.1 5), .int (y.1 6), .int (y.1 7), .int (y.1 8), .ref (v 5), .ref (v 6), .int (y.1 9), .int (y.1 10), .int (y.1 11), .ref (v 7), .ref (v 8), .int (y.1 12), .int (y.1 13), .ref (v 9), .ref (v 10), .ref (v 11), .ref (v 12), .ref (v 13), .ref (v 14)])), (v 0, .inl (g.2 0, 225, .inl (y.2.1 0))), (v 1, .inl (g.2 0, 675, .inl (y.2.1 1))), (v 2, .inl (g.2 2, 3, .inl (y.2.1 2))), (v 3, .inl (g.2 1, 900, .inl (y.2.1 3))), (v 4, .inl (g.2 0, 5, .inl (y.2.1 4))), (v 5, .inl (g.2 0, 225, .inl (y.2.1 5))), (v 6, .inl (g.2 0, 2816, .inl (y.2.1 6))), (v 7, .inl (g.2 0, 6, .inl (y.2.1 7))), (v 8, .inl (g.2 0, 6, .inl (y.2.1 8))), (v 9, .inl (g.2 0, 6, .inl (y.2.1 9))), (v 10, .inl (g.2 0, 6, .inl (y.2.1 10))), (v 11, .inl (g.2 0, 4, .inl (y.2.1 11))), (v 12, .inl (g.2 0, 4, .inl (y.2.1 12))), (v 13, .inl (g.2 3, 240, .inr (.inl (y.2.2 0)))), (v 14, .inl (g.2 3, 60, .inr (.inl (y.2.2 1))))]
def OM (y : XS) : Prop := (0 ≤ (y.1 1).toInt ∧ (y.1 1).toInt ≤ 900) ∧ (0 ≤ (y.1 2).toInt ∧ (y.1 2).toInt ≤ 900) ∧ (0 ≤ (y.1 3).toInt ∧ (y.1 3).toInt ≤ 900) ∧ (0 ≤ (y.1 4).toInt ∧ (y.1 4).toInt ≤ 900) ∧ (0 ≤ (y.1 5).toInt ∧ (y.1 5).toInt ≤ 4) ∧ (0 ≤ (y.1 6).toInt ∧ (y.1 6).toInt ≤ 99999) ∧ (0 ≤ (y.1 7).toInt ∧ (y.1 7).toInt ≤ 3) ∧ (0 ≤ (y.1 11).toInt ∧ (y.1 11).toInt ≤ 3) ∧ (0 ≤ (y.1 13).toInt ∧ (y.1 13).toInt ≤ 10) ∧ (wod (y.2.1 0)) ∧ (imok (y.2.1 1)) ∧ (ab (y.2.1 11) 4 (-1) 60) ∧ (ab (y.2.1 12) 4 0 3)
theorem oy_0 {y : XS} (h : OM y) : 0 ≤ (y.1 1).toInt ∧ (y.1 1).toInt ≤ 900 := h.1
theorem oy_1 {y : XS} (h : OM y) : 0 ≤ (y.1 2).toInt ∧ (y.1 2).toInt ≤ 900 := h.2.1
theorem oy_2 {y : XS} (h : OM y) : 0 ≤ (y.1 3).toInt ∧ (y.1 3).toInt ≤ 900 := h.2.2.1
theorem oy_3 {y : XS} (h : OM y) : 0 ≤ (y.1 4).toInt ∧ (y.1 4).toInt ≤ 900 := h.2.2.2.1
theorem oy_4 {y : XS} (h : OM y) : 0 ≤ (y.1 5).toInt ∧ (y.1 5).toInt ≤ 4 := h.2.2.2.2.1
theorem oy_5 {y : XS} (h : OM y) : 0 ≤ (y.1 6).toInt ∧ (y.1 6).toInt ≤ 99999 := h.2.2.2.2.2.1
theorem oy_6 {y : XS} (h : OM y) : 0 ≤ (y.1 7).toInt ∧ (y.1 7).toInt ≤ 3 := h.2.2.2.2.2.2.1
theorem oy_7 {y : XS} (h : OM y) : 0 ≤ (y.1 11).toInt ∧ (y.1 11).toInt ≤ 3 := h.2.2.2.2.2.2.2.1
theorem oy_8 {y : XS} (h : OM y) : 0 ≤ (y.1 13).toInt ∧ (y.1 13).toInt ≤ 10 := h.2.2.2.2.2.2.2.2.1
theorem oy_9 {y : XS} (h : OM y) : wod (y.2.1 0) := h.2.2.2.2.2.2.2.2.2.1
theorem oy_10 {y : XS} (h : OM y) : imok (y.2.1 1) := h.2.2.2.2.2.2.2.2.2.2.1
theorem oy_11 {y : XS} (h : OM y) : ab (y.2.1 11) 4 (-1) 60 := h.2.2.2.2.2.2.2.2.2.2.2.1
theorem oy_12 {y : XS} (h : OM y) : ab (y.2.1 12) 4 0 3 := h.2.2.2.2.2.2.2.2.2.2.2.2
def OR_ (x y : XS) : Prop := (((x.2.1 25) 0).toInt = ((y.2.1 2) 0).toInt) ∧ (((x.2.1 25) 1).toInt = ((y.2.1 2) 1).toInt) ∧ (((x.2.1 25) 2).toInt = ((y.2.1 2) 2).toInt) ∧ (((x.1 63).toInt = 0 ∧ ((y.2.1 11) 0).toInt = -1) ∨ ((x.1 63).toInt = 1 ∧ (x.1 65).toInt = ((y.2.1 11) 0).toInt ∧ (x.1 64).toInt = ((y.2.1 12) 0).toInt ∧ 0 ≤ (x.1 65).toInt)) ∧ (((x.1 66).toInt = 0 ∧ ((y.2.1 11) 1).toInt = -1) ∨ ((x.1 66).toInt = 1 ∧ (x.1 68).toInt = ((y.2.1 11) 1).toInt ∧ (x.1 67).toInt = ((y.2.1 12) 1).toInt ∧ 0 ≤ (x.1 68).toInt)) ∧ (((x.1 69).toInt = 0 ∧ ((y.2.1 11) 2).toInt = -1) ∨ ((x.1 69).toInt = 1 ∧ (x.1 71).toInt = ((y.2.1 11) 2).toInt ∧ (x.1 70).toInt = ((y.2.1 12) 2).toInt ∧ 0 ≤ (x.1 71).toInt)) ∧ (((x.1 72).toInt = 0 ∧ ((y.2.1 11) 3).toInt = -1) ∨ ((x.1 72).toInt = 1 ∧ (x.1 74).toInt = ((y.2.1 11) 3).toInt ∧ (x.1 73).toInt = ((y.2.1 12) 3).toInt ∧ 0 ≤ (x.1 74).toInt))
theorem or_0 {x y : XS} (h : OR_ x y) : ((x.2.1 25) 0).toInt = ((y.2.1 2) 0).toInt := h.1
theorem or_1 {x y : XS} (h : OR_ x y) : ((x.2.1 25) 1).toInt = ((y.2.1 2) 1).toInt := h.2.1
theorem or_2 {x y : XS} (h : OR_ x y) : ((x.2.1 25) 2).toInt = ((y.2.1 2) 2).toInt := h.2.2.1
theorem or_3 {x y : XS} (h : OR_ x y) : ((x.1 63).toInt = 0 ∧ ((y.2.1 11) 0).toInt = -1) ∨ ((x.1 63).toInt = 1 ∧ (x.1 65).toInt = ((y.2.1 11) 0).toInt ∧ (x.1 64).toInt = ((y.2.1 12) 0).toInt ∧ 0 ≤ (x.1 65).toInt) := h.2.2.2.1
theorem or_4 {x y : XS} (h : OR_ x y) : ((x.1 66).toInt = 0 ∧ ((y.2.1 11) 1).toInt = -1) ∨ ((x.1 66).toInt = 1 ∧ (x.1 68).toInt = ((y.2.1 11) 1).toInt ∧ (x.1 67).toInt = ((y.2.1 12) 1).toInt ∧ 0 ≤ (x.1 68).toInt) := h.2.2.2.2.1
theorem or_5 {x y : XS} (h : OR_ x y) : ((x.1 69).toInt = 0 ∧ ((y.2.1 11) 2).toInt = -1) ∨ ((x.1 69).toInt = 1 ∧ (x.1 71).toInt = ((y.2.1 11) 2).toInt ∧ (x.1 70).toInt = ((y.2.1 12) 2).toInt ∧ 0 ≤ (x.1 71).toInt) := h.2.2.2.2.2.1
theorem or_6 {x y : XS} (h : OR_ x y) : ((x.1 72).toInt = 0 ∧ ((y.2.1 11) 3).toInt = -1) ∨ ((x.1 72).toInt = 1 ∧ (x.1 74).toInt = ((y.2.1 11) 3).toInt ∧ (x.1 73).toInt = ((y.2.1 12) 3).toInt ∧ 0 ≤ (x.1 74).toInt) := h.2.2.2.2.2.2
theorem rel4 {t0 t1 t2 t3 w0 w1 w2 w3 z0 z1 z2 z3 : Int32} {mn wd : Nat → Int32} (h0 : (t0.toInt = 0 ∧ (mn 0).toInt = -1) ∨ (t0.toInt = 1 ∧ z0.toInt = (mn 0).toInt ∧ w0.toInt = (wd 0).toInt ∧ 0 ≤ z0.toInt)) (h1 : (t1.toInt = 0 ∧ (mn 1).toInt = -1) ∨ (t1.toInt = 1 ∧ z1.toInt = (mn 1).toInt ∧ w1.toInt = (wd 1).toInt ∧ 0 ≤ z1.toInt)) (h2 : (t2.toInt = 0 ∧ (mn 2).toInt = -1) ∨ (t2.toInt = 1 ∧ z2.toInt = (mn 2).toInt ∧ w2.toInt = (wd 2).toInt ∧ 0 ≤ z2.toInt)) (h3 : (t3.toInt = 0 ∧ (mn 3).toInt = -1) ∨ (t3.toInt = 1 ∧ z3.toInt = (mn 3).toInt ∧ w3.toInt = (wd 3).toInt ∧ 0 ≤ z3.toInt)) {p : Int32} (h : 0 ≤ p.toInt ∧ p.toInt ≤ 3) : ((sel4 t0 t1 t2 t3 p).toInt = 0 ∧ (mn p.toNatClampNeg).toInt = -1) ∨ ((sel4 t0 t1 t2 t3 p).toInt = 1 ∧ (sel4 z0 z1 z2 z3 p).toInt = (mn p.toNatClampNeg).toInt ∧ (sel4 w0 w1 w2 w3 p).toInt = (wd p.toNatClampNeg).toInt ∧ 0 ≤ (sel4 z0 z1 z2 z3 p).toInt) := by
  rcases (show p.toInt = 0 ∨ p.toInt = 1 ∨ p.toInt = 2 ∨ p.toInt = 3 by omega) with q | q | q | q
  · obtain rfl : p = 0 := Int32.toInt_inj.mp (q.trans (by decide)); rw [sel_0, sel_0, sel_0]; exact h0
  · obtain rfl : p = 1 := Int32.toInt_inj.mp (q.trans (by decide)); rw [sel_1, sel_1, sel_1]; exact h1
  · obtain rfl : p = 2 := Int32.toInt_inj.mp (q.trans (by decide)); rw [sel_2, sel_2, sel_2]; exact h2
  · obtain rfl : p = 3 := Int32.toInt_inj.mp (q.trans (by decide)); rw [sel_3, sel_3, sel_3]; exact h3
theorem flag3 {f g : Nat → Int32} (h0 : (f 0).toInt = (g 0).toInt) (h1 : (f 1).toInt = (g 1).toInt) (h2 : (f 2).toInt = (g 2).toInt) {p : Int32} (h : 0 ≤ p.toInt ∧ p.toInt ≤ 2) : (sel4 (f 0) (f 1) (f 2) (f 2) p).toInt = (g p.toNatClampNeg).toInt := by
  rcases (show p.toInt = 0 ∨ p.toInt = 1 ∨ p.toInt = 2 by omega) with q | q | q
  · obtain rfl : p = 0 := Int32.toInt_inj.mp (q.trans (by decide)); rw [sel_0]; exact h0
  · obtain rfl : p = 1 := Int32.toInt_inj.mp (q.trans (by decide)); rw [sel_1]; exact h1
  · obtain rfl : p = 2 := Int32.toInt_inj.mp (q.trans (by decide)); rw [sel_2]; exact h2
theorem pd_sub {D : va_G} {cl : List vw_C} {A : Nat → Prop} {ws ws' : va_W} {H : Heap} (hP : va_P D cl ws H) (hD : va_D A ws) (is : List Nat) (hn : va_nd is = true) (hs : is.map (fun i => ws[i]?) = ws'.map some) : va_P D cl ws' H ∧ va_D A ws' := by
  refine ⟨fun k q hk => ?_, hD.sub is hn hs⟩
  have h1 : (is.map (fun i => ws[i]?))[k]? = some (some q) := by
    rw [hs, List.getElem?_map, hk]
    rfl
  rw [List.getElem?_map] at h1
  cases hi : is[k]? with
  | none => rw [hi] at h1; cases h1
  | some i => rw [hi] at h1; exact hP i q (Option.some.inj h1)
theorem lx_in_1 {i : Int32} {L : Nat} (hL : L ≤ 3072) (h0 : 0 ≤ i.toInt) (h6 : i.toInt + 6 ≤ L) : vp_in (i + 1) L := by
  have t5 : (1 : Int32).toInt = 1 := by decide
  have t6 : (i + 1).toInt = i.toInt + (1 : Int32).toInt := fb_addI (by omega) (by omega)
  exact vp_in_iff.mpr ⟨by omega, by omega⟩
theorem lx_e_1 {xs : Nat → Int32} {i : Int32} {L : Nat} (hL : L ≤ 3072) (h0 : 0 ≤ i.toInt) (h6 : i.toInt + 6 ≤ L) : xs (i + 1).toNatClampNeg = xs (i.toNatClampNeg + 1) := by
  have t5 : (1 : Int32).toInt = 1 := by decide
  have t6 : (i + 1).toInt = i.toInt + (1 : Int32).toInt := fb_addI (by omega) (by omega)
  have t7 := cln h0
  rw [ixe (x := i + 1) (n := i.toNatClampNeg + 1) (by omega)]
theorem lx_in_2 {i : Int32} {L : Nat} (hL : L ≤ 3072) (h0 : 0 ≤ i.toInt) (h6 : i.toInt + 6 ≤ L) : vp_in (i + 2) L := by
  have t5 : (2 : Int32).toInt = 2 := by decide
  have t6 : (i + 2).toInt = i.toInt + (2 : Int32).toInt := fb_addI (by omega) (by omega)
  exact vp_in_iff.mpr ⟨by omega, by omega⟩
theorem lx_e_2 {xs : Nat → Int32} {i : Int32} {L : Nat} (hL : L ≤ 3072) (h0 : 0 ≤ i.toInt) (h6 : i.toInt + 6 ≤ L) : xs (i + 2).toNatClampNeg = xs (i.toNatClampNeg + 2) := by
  have t5 : (2 : Int32).toInt = 2 := by decide
  have t6 : (i + 2).toInt = i.toInt + (2 : Int32).toInt := fb_addI (by omega) (by omega)
  have t7 := cln h0
  rw [ixe (x := i + 2) (n := i.toNatClampNeg + 2) (by omega)]
theorem lx_in_3 {i : Int32} {L : Nat} (hL : L ≤ 3072) (h0 : 0 ≤ i.toInt) (h6 : i.toInt + 6 ≤ L) : vp_in (i + 3) L := by
  have t5 : (3 : Int32).toInt = 3 := by decide
  have t6 : (i + 3).toInt = i.toInt + (3 : Int32).toInt := fb_addI (by omega) (by omega)
  exact vp_in_iff.mpr ⟨by omega, by omega⟩
theorem lx_e_3 {xs : Nat → Int32} {i : Int32} {L : Nat} (hL : L ≤ 3072) (h0 : 0 ≤ i.toInt) (h6 : i.toInt + 6 ≤ L) : xs (i + 3).toNatClampNeg = xs (i.toNatClampNeg + 3) := by
  have t5 : (3 : Int32).toInt = 3 := by decide
  have t6 : (i + 3).toInt = i.toInt + (3 : Int32).toInt := fb_addI (by omega) (by omega)
  have t7 := cln h0
  rw [ixe (x := i + 3) (n := i.toNatClampNeg + 3) (by omega)]
theorem lx_in_4 {i : Int32} {L : Nat} (hL : L ≤ 3072) (h0 : 0 ≤ i.toInt) (h6 : i.toInt + 6 ≤ L) : vp_in (i + 4) L := by
  have t5 : (4 : Int32).toInt = 4 := by decide
  have t6 : (i + 4).toInt = i.toInt + (4 : Int32).toInt := fb_addI (by omega) (by omega)
  exact vp_in_iff.mpr ⟨by omega, by omega⟩
theorem lx_e_4 {xs : Nat → Int32} {i : Int32} {L : Nat} (hL : L ≤ 3072) (h0 : 0 ≤ i.toInt) (h6 : i.toInt + 6 ≤ L) : xs (i + 4).toNatClampNeg = xs (i.toNatClampNeg + 4) := by
  have t5 : (4 : Int32).toInt = 4 := by decide
  have t6 : (i + 4).toInt = i.toInt + (4 : Int32).toInt := fb_addI (by omega) (by omega)
  have t7 := cln h0
  rw [ixe (x := i + 4) (n := i.toNatClampNeg + 4) (by omega)]
theorem lx_in_5 {i : Int32} {L : Nat} (hL : L ≤ 3072) (h0 : 0 ≤ i.toInt) (h6 : i.toInt + 6 ≤ L) : vp_in (i + 5) L := by
  have t5 : (5 : Int32).toInt = 5 := by decide
  have t6 : (i + 5).toInt = i.toInt + (5 : Int32).toInt := fb_addI (by omega) (by omega)
  exact vp_in_iff.mpr ⟨by omega, by omega⟩
theorem lx_e_5 {xs : Nat → Int32} {i : Int32} {L : Nat} (hL : L ≤ 3072) (h0 : 0 ≤ i.toInt) (h6 : i.toInt + 6 ≤ L) : xs (i + 5).toNatClampNeg = xs (i.toNatClampNeg + 5) := by
  have t5 : (5 : Int32).toInt = 5 := by decide
  have t6 : (i + 5).toInt = i.toInt + (5 : Int32).toInt := fb_addI (by omega) (by omega)
  have t7 := cln h0
  rw [ixe (x := i + 5) (n := i.toNatClampNeg + 5) (by omega)]
theorem cmp_image {p1 U V : Int32} (h1 : ((0 ≤ p1.toInt ∧ p1.toInt ≤ 2) ∧ U.toInt = 0) ∨ ((p1.toInt < 0 ∨ 2 < p1.toInt) ∧ U.toInt = -2)) (h2 : ((0 ≤ p1.toInt ∧ p1.toInt ≤ 2) ∧ V.toInt = 0) ∨ ((p1.toInt < 0 ∨ 2 < p1.toInt) ∧ V.toInt = -2)) : U.toInt = V.toInt := by omega
theorem ri_0 {p1 U V : Int32} {F f G q : Nat → Int32} (h1 : ((0 ≤ p1.toInt ∧ p1.toInt ≤ 2) ∧ U.toInt = 0) ∨ ((p1.toInt < 0 ∨ 2 < p1.toInt) ∧ U.toInt = -2)) (h2 : ((0 ≤ p1.toInt ∧ p1.toInt ≤ 2) ∧ V.toInt = 0) ∨ ((p1.toInt < 0 ∨ 2 < p1.toInt) ∧ V.toInt = -2)) (ha : ((U.toInt = 0 ∧ p1.toInt = 0) ∧ (F 0).toInt = 1) ∨ ((U.toInt ≠ 0 ∨ p1.toInt ≠ 0) ∧ (F 0).toInt = (f 0).toInt)) (hb : ((V.toInt = 0 ∧ p1.toInt = 0) ∧ (G 0).toInt = 1) ∨ ((V.toInt ≠ 0 ∨ p1.toInt ≠ 0) ∧ (G 0).toInt = (q 0).toInt)) (r : (f 0).toInt = (q 0).toInt) : (F 0).toInt = (G 0).toInt := by
  have e := cmp_image h1 h2
  omega
theorem ri_1 {p1 U V : Int32} {F f G q : Nat → Int32} (h1 : ((0 ≤ p1.toInt ∧ p1.toInt ≤ 2) ∧ U.toInt = 0) ∨ ((p1.toInt < 0 ∨ 2 < p1.toInt) ∧ U.toInt = -2)) (h2 : ((0 ≤ p1.toInt ∧ p1.toInt ≤ 2) ∧ V.toInt = 0) ∨ ((p1.toInt < 0 ∨ 2 < p1.toInt) ∧ V.toInt = -2)) (ha : ((U.toInt = 0 ∧ p1.toInt = 1) ∧ (F 1).toInt = 1) ∨ ((U.toInt ≠ 0 ∨ p1.toInt ≠ 1) ∧ (F 1).toInt = (f 1).toInt)) (hb : ((V.toInt = 0 ∧ p1.toInt = 1) ∧ (G 1).toInt = 1) ∨ ((V.toInt ≠ 0 ∨ p1.toInt ≠ 1) ∧ (G 1).toInt = (q 1).toInt)) (r : (f 1).toInt = (q 1).toInt) : (F 1).toInt = (G 1).toInt := by
  have e := cmp_image h1 h2
  omega
theorem ri_2 {p1 U V : Int32} {F f G q : Nat → Int32} (h1 : ((0 ≤ p1.toInt ∧ p1.toInt ≤ 2) ∧ U.toInt = 0) ∨ ((p1.toInt < 0 ∨ 2 < p1.toInt) ∧ U.toInt = -2)) (h2 : ((0 ≤ p1.toInt ∧ p1.toInt ≤ 2) ∧ V.toInt = 0) ∨ ((p1.toInt < 0 ∨ 2 < p1.toInt) ∧ V.toInt = -2)) (ha : ((U.toInt = 0 ∧ p1.toInt = 2) ∧ (F 2).toInt = 1) ∨ ((U.toInt ≠ 0 ∨ p1.toInt ≠ 2) ∧ (F 2).toInt = (f 2).toInt)) (hb : ((V.toInt = 0 ∧ p1.toInt = 2) ∧ (G 2).toInt = 1) ∨ ((V.toInt ≠ 0 ∨ p1.toInt ≠ 2) ∧ (G 2).toInt = (q 2).toInt)) (r : (f 2).toInt = (q 2).toInt) : (F 2).toInt = (G 2).toInt := by
  have e := cmp_image h1 h2
  omega
theorem cmp_back {p1 U V : Int32} {f q : Nat → Int32} (h1 : ((p1.toInt < 0 ∨ 2 < p1.toInt) ∧ U.toInt = -2) ∨ ((0 ≤ p1.toInt ∧ p1.toInt ≤ 2) ∧ (((sel4 (f 0) (f 1) (f 2) (f 2) p1).toInt = 0 ∧ U.toInt = -6) ∨ ((sel4 (f 0) (f 1) (f 2) (f 2) p1).toInt ≠ 0 ∧ U.toInt = 0)))) (h2 : ((p1.toInt < 0 ∨ 2 < p1.toInt) ∧ V.toInt = -2) ∨ ((0 ≤ p1.toInt ∧ p1.toInt ≤ 2) ∧ (((q p1.toNatClampNeg).toInt = 0 ∧ V.toInt = -6) ∨ ((q p1.toNatClampNeg).toInt ≠ 0 ∧ V.toInt = 0)))) (r : (0 ≤ p1.toInt ∧ p1.toInt ≤ 2) → (sel4 (f 0) (f 1) (f 2) (f 2) p1).toInt = (q p1.toNatClampNeg).toInt) : U.toInt = V.toInt := by omega
theorem cmp_row {p1 p2 p3 U V : Int32} (h1 : (((p1.toInt < 0 ∨ 3 < p1.toInt ∨ p2.toInt < 0 ∨ 3 < p2.toInt ∨ 60 < p3.toInt) ∧ U.toInt = -2) ∨ ((0 ≤ p1.toInt ∧ p1.toInt ≤ 3 ∧ 0 ≤ p2.toInt ∧ p2.toInt ≤ 3 ∧ p3.toInt ≤ 60) ∧ p3.toInt < 0 ∧ U.toInt = -3) ∨ ((0 ≤ p1.toInt ∧ p1.toInt ≤ 3 ∧ 0 ≤ p2.toInt ∧ p2.toInt ≤ 3 ∧ p3.toInt ≤ 60) ∧ 0 ≤ p3.toInt ∧ U.toInt = 0))) (h2 : (((p1.toInt < 0 ∨ 3 < p1.toInt ∨ p2.toInt < 0 ∨ 3 < p2.toInt ∨ 60 < p3.toInt) ∧ V.toInt = -2) ∨ ((0 ≤ p1.toInt ∧ p1.toInt ≤ 3 ∧ 0 ≤ p2.toInt ∧ p2.toInt ≤ 3 ∧ p3.toInt ≤ 60) ∧ p3.toInt < 0 ∧ V.toInt = -3) ∨ ((0 ≤ p1.toInt ∧ p1.toInt ≤ 3 ∧ 0 ≤ p2.toInt ∧ p2.toInt ≤ 3 ∧ p3.toInt ≤ 60) ∧ 0 ≤ p3.toInt ∧ V.toInt = 0))) : U.toInt = V.toInt := by omega
theorem rr_0 {p1 p2 p3 U V T X Z t w z : Int32} {M Y mn wd : Nat → Int32} (h1 : (((p1.toInt < 0 ∨ 3 < p1.toInt ∨ p2.toInt < 0 ∨ 3 < p2.toInt ∨ 60 < p3.toInt) ∧ U.toInt = -2) ∨ ((0 ≤ p1.toInt ∧ p1.toInt ≤ 3 ∧ 0 ≤ p2.toInt ∧ p2.toInt ≤ 3 ∧ p3.toInt ≤ 60) ∧ p3.toInt < 0 ∧ U.toInt = -3) ∨ ((0 ≤ p1.toInt ∧ p1.toInt ≤ 3 ∧ 0 ≤ p2.toInt ∧ p2.toInt ≤ 3 ∧ p3.toInt ≤ 60) ∧ 0 ≤ p3.toInt ∧ U.toInt = 0))) (h2 : (((p1.toInt < 0 ∨ 3 < p1.toInt ∨ p2.toInt < 0 ∨ 3 < p2.toInt ∨ 60 < p3.toInt) ∧ V.toInt = -2) ∨ ((0 ≤ p1.toInt ∧ p1.toInt ≤ 3 ∧ 0 ≤ p2.toInt ∧ p2.toInt ≤ 3 ∧ p3.toInt ≤ 60) ∧ p3.toInt < 0 ∧ V.toInt = -3) ∨ ((0 ≤ p1.toInt ∧ p1.toInt ≤ 3 ∧ 0 ≤ p2.toInt ∧ p2.toInt ≤ 3 ∧ p3.toInt ≤ 60) ∧ 0 ≤ p3.toInt ∧ V.toInt = 0))) (ha : (((U.toInt = 0 ∧ p1.toInt = 0) ∧ T.toInt = 1 ∧ X.toInt = p2.toInt ∧ Z.toInt = p3.toInt) ∨ ((U.toInt ≠ 0 ∨ p1.toInt ≠ 0) ∧ T.toInt = t.toInt ∧ X.toInt = w.toInt ∧ Z.toInt = z.toInt))) (hb : ((V.toInt = 0 ∧ p1.toInt = 0) ∧ (M 0).toInt = p3.toInt ∧ (Y 0).toInt = p2.toInt) ∨ ((V.toInt ≠ 0 ∨ p1.toInt ≠ 0) ∧ (M 0).toInt = (mn 0).toInt ∧ (Y 0).toInt = (wd 0).toInt)) (r : (t.toInt = 0 ∧ (mn 0).toInt = -1) ∨ (t.toInt = 1 ∧ z.toInt = (mn 0).toInt ∧ w.toInt = (wd 0).toInt ∧ 0 ≤ z.toInt)) : (T.toInt = 0 ∧ (M 0).toInt = -1) ∨ (T.toInt = 1 ∧ Z.toInt = (M 0).toInt ∧ X.toInt = (Y 0).toInt ∧ 0 ≤ Z.toInt) := by
  have e := cmp_row h1 h2
  omega
theorem rr_1 {p1 p2 p3 U V T X Z t w z : Int32} {M Y mn wd : Nat → Int32} (h1 : (((p1.toInt < 0 ∨ 3 < p1.toInt ∨ p2.toInt < 0 ∨ 3 < p2.toInt ∨ 60 < p3.toInt) ∧ U.toInt = -2) ∨ ((0 ≤ p1.toInt ∧ p1.toInt ≤ 3 ∧ 0 ≤ p2.toInt ∧ p2.toInt ≤ 3 ∧ p3.toInt ≤ 60) ∧ p3.toInt < 0 ∧ U.toInt = -3) ∨ ((0 ≤ p1.toInt ∧ p1.toInt ≤ 3 ∧ 0 ≤ p2.toInt ∧ p2.toInt ≤ 3 ∧ p3.toInt ≤ 60) ∧ 0 ≤ p3.toInt ∧ U.toInt = 0))) (h2 : (((p1.toInt < 0 ∨ 3 < p1.toInt ∨ p2.toInt < 0 ∨ 3 < p2.toInt ∨ 60 < p3.toInt) ∧ V.toInt = -2) ∨ ((0 ≤ p1.toInt ∧ p1.toInt ≤ 3 ∧ 0 ≤ p2.toInt ∧ p2.toInt ≤ 3 ∧ p3.toInt ≤ 60) ∧ p3.toInt < 0 ∧ V.toInt = -3) ∨ ((0 ≤ p1.toInt ∧ p1.toInt ≤ 3 ∧ 0 ≤ p2.toInt ∧ p2.toInt ≤ 3 ∧ p3.toInt ≤ 60) ∧ 0 ≤ p3.toInt ∧ V.toInt = 0))) (ha : (((U.toInt = 0 ∧ p1.toInt = 1) ∧ T.toInt = 1 ∧ X.toInt = p2.toInt ∧ Z.toInt = p3.toInt) ∨ ((U.toInt ≠ 0 ∨ p1.toInt ≠ 1) ∧ T.toInt = t.toInt ∧ X.toInt = w.toInt ∧ Z.toInt = z.toInt))) (hb : ((V.toInt = 0 ∧ p1.toInt = 1) ∧ (M 1).toInt = p3.toInt ∧ (Y 1).toInt = p2.toInt) ∨ ((V.toInt ≠ 0 ∨ p1.toInt ≠ 1) ∧ (M 1).toInt = (mn 1).toInt ∧ (Y 1).toInt = (wd 1).toInt)) (r : (t.toInt = 0 ∧ (mn 1).toInt = -1) ∨ (t.toInt = 1 ∧ z.toInt = (mn 1).toInt ∧ w.toInt = (wd 1).toInt ∧ 0 ≤ z.toInt)) : (T.toInt = 0 ∧ (M 1).toInt = -1) ∨ (T.toInt = 1 ∧ Z.toInt = (M 1).toInt ∧ X.toInt = (Y 1).toInt ∧ 0 ≤ Z.toInt) := by
  have e := cmp_row h1 h2
  omega
theorem rr_2 {p1 p2 p3 U V T X Z t w z : Int32} {M Y mn wd : Nat → Int32} (h1 : (((p1.toInt < 0 ∨ 3 < p1.toInt ∨ p2.toInt < 0 ∨ 3 < p2.toInt ∨ 60 < p3.toInt) ∧ U.toInt = -2) ∨ ((0 ≤ p1.toInt ∧ p1.toInt ≤ 3 ∧ 0 ≤ p2.toInt ∧ p2.toInt ≤ 3 ∧ p3.toInt ≤ 60) ∧ p3.toInt < 0 ∧ U.toInt = -3) ∨ ((0 ≤ p1.toInt ∧ p1.toInt ≤ 3 ∧ 0 ≤ p2.toInt ∧ p2.toInt ≤ 3 ∧ p3.toInt ≤ 60) ∧ 0 ≤ p3.toInt ∧ U.toInt = 0))) (h2 : (((p1.toInt < 0 ∨ 3 < p1.toInt ∨ p2.toInt < 0 ∨ 3 < p2.toInt ∨ 60 < p3.toInt) ∧ V.toInt = -2) ∨ ((0 ≤ p1.toInt ∧ p1.toInt ≤ 3 ∧ 0 ≤ p2.toInt ∧ p2.toInt ≤ 3 ∧ p3.toInt ≤ 60) ∧ p3.toInt < 0 ∧ V.toInt = -3) ∨ ((0 ≤ p1.toInt ∧ p1.toInt ≤ 3 ∧ 0 ≤ p2.toInt ∧ p2.toInt ≤ 3 ∧ p3.toInt ≤ 60) ∧ 0 ≤ p3.toInt ∧ V.toInt = 0))) (ha : (((U.toInt = 0 ∧ p1.toInt = 2) ∧ T.toInt = 1 ∧ X.toInt = p2.toInt ∧ Z.toInt = p3.toInt) ∨ ((U.toInt ≠ 0 ∨ p1.toInt ≠ 2) ∧ T.toInt = t.toInt ∧ X.toInt = w.toInt ∧ Z.toInt = z.toInt))) (hb : ((V.toInt = 0 ∧ p1.toInt = 2) ∧ (M 2).toInt = p3.toInt ∧ (Y 2).toInt = p2.toInt) ∨ ((V.toInt ≠ 0 ∨ p1.toInt ≠ 2) ∧ (M 2).toInt = (mn 2).toInt ∧ (Y 2).toInt = (wd 2).toInt)) (r : (t.toInt = 0 ∧ (mn 2).toInt = -1) ∨ (t.toInt = 1 ∧ z.toInt = (mn 2).toInt ∧ w.toInt = (wd 2).toInt ∧ 0 ≤ z.toInt)) : (T.toInt = 0 ∧ (M 2).toInt = -1) ∨ (T.toInt = 1 ∧ Z.toInt = (M 2).toInt ∧ X.toInt = (Y 2).toInt ∧ 0 ≤ Z.toInt) := by
  have e := cmp_row h1 h2
  omega
theorem rr_3 {p1 p2 p3 U V T X Z t w z : Int32} {M Y mn wd : Nat → Int32} (h1 : (((p1.toInt < 0 ∨ 3 < p1.toInt ∨ p2.toInt < 0 ∨ 3 < p2.toInt ∨ 60 < p3.toInt) ∧ U.toInt = -2) ∨ ((0 ≤ p1.toInt ∧ p1.toInt ≤ 3 ∧ 0 ≤ p2.toInt ∧ p2.toInt ≤ 3 ∧ p3.toInt ≤ 60) ∧ p3.toInt < 0 ∧ U.toInt = -3) ∨ ((0 ≤ p1.toInt ∧ p1.toInt ≤ 3 ∧ 0 ≤ p2.toInt ∧ p2.toInt ≤ 3 ∧ p3.toInt ≤ 60) ∧ 0 ≤ p3.toInt ∧ U.toInt = 0))) (h2 : (((p1.toInt < 0 ∨ 3 < p1.toInt ∨ p2.toInt < 0 ∨ 3 < p2.toInt ∨ 60 < p3.toInt) ∧ V.toInt = -2) ∨ ((0 ≤ p1.toInt ∧ p1.toInt ≤ 3 ∧ 0 ≤ p2.toInt ∧ p2.toInt ≤ 3 ∧ p3.toInt ≤ 60) ∧ p3.toInt < 0 ∧ V.toInt = -3) ∨ ((0 ≤ p1.toInt ∧ p1.toInt ≤ 3 ∧ 0 ≤ p2.toInt ∧ p2.toInt ≤ 3 ∧ p3.toInt ≤ 60) ∧ 0 ≤ p3.toInt ∧ V.toInt = 0))) (ha : (((U.toInt = 0 ∧ p1.toInt = 3) ∧ T.toInt = 1 ∧ X.toInt = p2.toInt ∧ Z.toInt = p3.toInt) ∨ ((U.toInt ≠ 0 ∨ p1.toInt ≠ 3) ∧ T.toInt = t.toInt ∧ X.toInt = w.toInt ∧ Z.toInt = z.toInt))) (hb : ((V.toInt = 0 ∧ p1.toInt = 3) ∧ (M 3).toInt = p3.toInt ∧ (Y 3).toInt = p2.toInt) ∨ ((V.toInt ≠ 0 ∨ p1.toInt ≠ 3) ∧ (M 3).toInt = (mn 3).toInt ∧ (Y 3).toInt = (wd 3).toInt)) (r : (t.toInt = 0 ∧ (mn 3).toInt = -1) ∨ (t.toInt = 1 ∧ z.toInt = (mn 3).toInt ∧ w.toInt = (wd 3).toInt ∧ 0 ≤ z.toInt)) : (T.toInt = 0 ∧ (M 3).toInt = -1) ∨ (T.toInt = 1 ∧ Z.toInt = (M 3).toInt ∧ X.toInt = (Y 3).toInt ∧ 0 ≤ Z.toInt) := by
  have e := cmp_row h1 h2
  omega
theorem cmp_write {p1 p2 U V : Int32} {t0 t1 t2 t3 w0 w1 w2 w3 z0 z1 z2 z3 : Int32} {mn wd : Nat → Int32} (h1 : ((p1.toInt < 0 ∨ 3 < p1.toInt) ∧ U.toInt = -2) ∨ ((0 ≤ p1.toInt ∧ p1.toInt ≤ 3) ∧ (((sel4 t0 t1 t2 t3 p1).toInt = 0 ∧ U.toInt = -6) ∨ (¬ ((sel4 t0 t1 t2 t3 p1).toInt = 0) ∧ (p2.toInt < 0 ∨ (sel4 z0 z1 z2 z3 p1).toInt ≤ p2.toInt) ∧ U.toInt = -7) ∨ (¬ ((sel4 t0 t1 t2 t3 p1).toInt = 0) ∧ 0 ≤ p2.toInt ∧ p2.toInt < (sel4 z0 z1 z2 z3 p1).toInt ∧ U.toInt = 0)))) (h2 : ((p1.toInt < 0 ∨ 3 < p1.toInt) ∧ V.toInt = -2) ∨ ((0 ≤ p1.toInt ∧ p1.toInt ≤ 3) ∧ (((mn p1.toNatClampNeg).toInt = -1 ∧ V.toInt = -6) ∨ (¬ ((mn p1.toNatClampNeg).toInt = -1) ∧ (p2.toInt < 0 ∨ (mn p1.toNatClampNeg).toInt ≤ p2.toInt) ∧ V.toInt = -7) ∨ (¬ ((mn p1.toNatClampNeg).toInt = -1) ∧ 0 ≤ p2.toInt ∧ p2.toInt < (mn p1.toNatClampNeg).toInt ∧ V.toInt = 0)))) (r : ((0 ≤ p1.toInt ∧ p1.toInt ≤ 3) → (((sel4 t0 t1 t2 t3 p1).toInt = 0 ∧ (mn p1.toNatClampNeg).toInt = -1) ∨ ((sel4 t0 t1 t2 t3 p1).toInt = 1 ∧ (sel4 z0 z1 z2 z3 p1).toInt = (mn p1.toNatClampNeg).toInt ∧ (sel4 w0 w1 w2 w3 p1).toInt = (wd p1.toNatClampNeg).toInt ∧ 0 ≤ (sel4 z0 z1 z2 z3 p1).toInt)))) : U.toInt = V.toInt := by omega
theorem cmp_paste {p1 p2 p3 p4 p5 U V : Int32} {t0 t1 t2 t3 w0 w1 w2 w3 z0 z1 z2 z3 : Int32} {mn wd : Nat → Int32} (h1 : (((p1.toInt < 0 ∨ 3 < p1.toInt) ∨ (p3.toInt < 0 ∨ 3 < p3.toInt)) ∧ U.toInt = -2) ∨ ((0 ≤ p1.toInt ∧ p1.toInt ≤ 3) ∧ (0 ≤ p3.toInt ∧ p3.toInt ≤ 3) ∧ ((((sel4 t0 t1 t2 t3 p1).toInt = 0 ∨ (sel4 t0 t1 t2 t3 p3).toInt = 0) ∧ U.toInt = -6) ∨ (¬ ((sel4 t0 t1 t2 t3 p1).toInt = 0) ∧ ¬ ((sel4 t0 t1 t2 t3 p3).toInt = 0) ∧ (((sel4 w0 w1 w2 w3 p1).toInt ≠ (sel4 w0 w1 w2 w3 p3).toInt ∧ U.toInt = -8) ∨ ((sel4 w0 w1 w2 w3 p1).toInt = (sel4 w0 w1 w2 w3 p3).toInt ∧ (((p2.toInt < 0 ∨ p4.toInt < 0 ∨ p5.toInt < 0 ∨ (sel4 z0 z1 z2 z3 p1).toInt < p2.toInt + p5.toInt ∨ (sel4 z0 z1 z2 z3 p3).toInt < p4.toInt + p5.toInt) ∧ U.toInt = -7) ∨ (0 ≤ p2.toInt ∧ 0 ≤ p4.toInt ∧ 0 ≤ p5.toInt ∧ p2.toInt + p5.toInt ≤ (sel4 z0 z1 z2 z3 p1).toInt ∧ p4.toInt + p5.toInt ≤ (sel4 z0 z1 z2 z3 p3).toInt ∧ U.toInt = 0)))))))) (h2 : (((p1.toInt < 0 ∨ 3 < p1.toInt) ∨ (p3.toInt < 0 ∨ 3 < p3.toInt)) ∧ V.toInt = -2) ∨ ((0 ≤ p1.toInt ∧ p1.toInt ≤ 3) ∧ (0 ≤ p3.toInt ∧ p3.toInt ≤ 3) ∧ ((((mn p1.toNatClampNeg).toInt = -1 ∨ (mn p3.toNatClampNeg).toInt = -1) ∧ V.toInt = -6) ∨ (¬ ((mn p1.toNatClampNeg).toInt = -1) ∧ ¬ ((mn p3.toNatClampNeg).toInt = -1) ∧ (((wd p1.toNatClampNeg).toInt ≠ (wd p3.toNatClampNeg).toInt ∧ V.toInt = -8) ∨ ((wd p1.toNatClampNeg).toInt = (wd p3.toNatClampNeg).toInt ∧ (((p2.toInt < 0 ∨ p4.toInt < 0 ∨ p5.toInt < 0 ∨ (mn p1.toNatClampNeg).toInt < p2.toInt + p5.toInt ∨ (mn p3.toNatClampNeg).toInt < p4.toInt + p5.toInt) ∧ V.toInt = -7) ∨ (0 ≤ p2.toInt ∧ 0 ≤ p4.toInt ∧ 0 ≤ p5.toInt ∧ p2.toInt + p5.toInt ≤ (mn p1.toNatClampNeg).toInt ∧ p4.toInt + p5.toInt ≤ (mn p3.toNatClampNeg).toInt ∧ V.toInt = 0)))))))) (r : ((0 ≤ p1.toInt ∧ p1.toInt ≤ 3) → (((sel4 t0 t1 t2 t3 p1).toInt = 0 ∧ (mn p1.toNatClampNeg).toInt = -1) ∨ ((sel4 t0 t1 t2 t3 p1).toInt = 1 ∧ (sel4 z0 z1 z2 z3 p1).toInt = (mn p1.toNatClampNeg).toInt ∧ (sel4 w0 w1 w2 w3 p1).toInt = (wd p1.toNatClampNeg).toInt ∧ 0 ≤ (sel4 z0 z1 z2 z3 p1).toInt)))) (r3 : ((0 ≤ p3.toInt ∧ p3.toInt ≤ 3) → (((sel4 t0 t1 t2 t3 p3).toInt = 0 ∧ (mn p3.toNatClampNeg).toInt = -1) ∨ ((sel4 t0 t1 t2 t3 p3).toInt = 1 ∧ (sel4 z0 z1 z2 z3 p3).toInt = (mn p3.toNatClampNeg).toInt ∧ (sel4 w0 w1 w2 w3 p3).toInt = (wd p3.toNatClampNeg).toInt ∧ 0 ≤ (sel4 z0 z1 z2 z3 p3).toInt)))) : U.toInt = V.toInt := by omega
