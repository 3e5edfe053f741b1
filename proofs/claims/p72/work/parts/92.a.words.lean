theorem b_1196 : Cond.methodLink RX3 3 objectInit ∈ BIG := bi (tin_1 _ (List.mem_of_getElem? (i := 77) rfl)) rfl
theorem b_1197 : Cond.instanceMethod objectInit ∈ BIG := bi (tin_1 _ (List.mem_of_getElem? (i := 28) rfl)) rfl
theorem b_1198 : Cond.code objectInit ⟨#[0xb1]⟩ 1 none ∈ BIG := bi (tin_1 _ (List.mem_of_getElem? (i := 29) rfl)) rfl
theorem b_1199 : Cond.arrayClass .int ∈ BIG := bi (tin_1 _ (List.mem_of_getElem? (i := 96) rfl)) rfl
theorem b_1200 : Cond.methodLink RX9 3 objectInit ∈ BIG := bi (tin_1 _ (List.mem_of_getElem? (i := 41) rfl)) rfl
theorem b_1201 : Cond.arrayClass .byte ∈ BIG := bi (tin_1 _ (List.mem_of_getElem? (i := 65) rfl)) rfl
theorem b_1202 : Cond.methodLink RX8 3 objectInit ∈ BIG := bi (tin_2 _ (List.mem_of_getElem? (i := 136) rfl)) rfl
theorem b_1203 : Cond.arrayClass .long ∈ BIG := bi (tin_2 _ (List.mem_of_getElem? (i := 156) rfl)) rfl
theorem b_1204 : Cond.methodLink RX10 3 objectInit ∈ BIG := bi (tin_1 _ (List.mem_of_getElem? (i := 236) rfl)) rfl
theorem b_1205 : Cond.methodLink RX4 3 objectInit ∈ BIG := bi (tin_2 _ (List.mem_of_getElem? (i := 40) rfl)) rfl
theorem b_1206 : Cond.methodLink RX6 3 objectInit ∈ BIG := bi (tin_2 _ (List.mem_of_getElem? (i := 50) rfl)) rfl
theorem b_1207 : Cond.methodLink RX5 3 objectInit ∈ BIG := bi (tin_2 _ (List.mem_of_getElem? (i := 71) rfl)) rfl
theorem b_1208 : Cond.methodLink RX7 3 objectInit ∈ BIG := bi (tin_2 _ (List.mem_of_getElem? (i := 95) rfl)) rfl
theorem b_1209 : Cond.methodLink RX2 3 objectInit ∈ BIG := bi (tin_2 _ (List.mem_of_getElem? (i := 116) rfl)) rfl
theorem b_1210 : Cond.methodLink RX0 3 objectInit ∈ BIG := bi (tin_1 _ (List.mem_of_getElem? (i := 71) rfl)) rfl
theorem b_1211 : Cond.classLink RX0 39 RX3 ∈ BIG := bi (tin_1 _ (List.mem_of_getElem? (i := 72) rfl)) rfl
theorem b_1212 : Cond.instantiable RX3 4 ∈ BIG := bi (tin_1 _ (List.mem_of_getElem? (i := 73) rfl)) rfl
theorem b_1213 : Cond.methodLinkNest RX0 41 yX3_init RX11 ∈ nests := ne (tin_1 _ (List.mem_of_getElem? (i := 74) rfl)) rfl
theorem b_1214 : Cond.methodLink RX1 3 objectInit ∈ BIG := bi (tin_1 _ (List.mem_of_getElem? (i := 35) rfl)) rfl
theorem b_1215 : Cond.classLink RX1 9 RX9 ∈ BIG := bi (tin_1 _ (List.mem_of_getElem? (i := 36) rfl)) rfl
theorem b_1216 : Cond.instantiable RX9 6 ∈ BIG := bi (tin_1 _ (List.mem_of_getElem? (i := 37) rfl)) rfl
theorem b_1217 : Cond.methodLinkNest RX1 11 yX9_init RX11 ∈ nests := ne (tin_1 _ (List.mem_of_getElem? (i := 38) rfl)) rfl
theorem b_1218 : Cond.classLink RX1 18 RX0 ∈ BIG := bi (tin_1 _ (List.mem_of_getElem? (i := 66) rfl)) rfl
theorem b_1219 : Cond.instantiable RX0 20 ∈ BIG := bi (tin_1 _ (List.mem_of_getElem? (i := 67) rfl)) rfl
theorem b_1220 : Cond.methodLinkNest RX1 20 yX0_init RX11 ∈ nests := ne (tin_1 _ (List.mem_of_getElem? (i := 68) rfl)) rfl
theorem b_1221 : Cond.methodLink RX11 1 objectInit ∈ BIG := bi (tin_1 _ (List.mem_of_getElem? (i := 27) rfl)) rfl
theorem b_1222 : Cond.classLink RX11 7 RX1 ∈ BIG := bi (tin_1 _ (List.mem_of_getElem? (i := 30) rfl)) rfl
theorem b_1223 : Cond.instantiable RX1 5 ∈ BIG := bi (tin_1 _ (List.mem_of_getElem? (i := 31) rfl)) rfl
theorem b_1224 : Cond.methodLinkNest RX11 9 yX1_init RX11 ∈ nests := ne (tin_1 _ (List.mem_of_getElem? (i := 32) rfl)) rfl
theorem b_1225 : Cond.classLink RX11 16 RX0 ∈ BIG := bi (tin_1 _ (List.mem_of_getElem? (i := 226) rfl)) rfl
theorem b_1226 : Cond.methodLinkNest RX11 18 yX0_init RX11 ∈ nests := ne (tin_1 _ (List.mem_of_getElem? (i := 227) rfl)) rfl
theorem b_1227 : Cond.arrayClass .boolean ∈ BIG := bi (tin_2 _ (List.mem_of_getElem? (i := 34) rfl)) rfl
theorem b_1228 : Cond.classLink RX11 31 RX8 ∈ BIG := bi (tin_1 _ (List.mem_of_getElem? (i := 229) rfl)) rfl
theorem b_1229 : Cond.classLink RX11 37 RX10 ∈ BIG := bi (tin_1 _ (List.mem_of_getElem? (i := 231) rfl)) rfl
theorem b_1230 : Cond.instantiable RX10 10 ∈ BIG := bi (tin_1 _ (List.mem_of_getElem? (i := 232) rfl)) rfl
theorem b_1231 : Cond.methodLinkNest RX11 39 yX10_init RX11 ∈ nests := ne (tin_1 _ (List.mem_of_getElem? (i := 233) rfl)) rfl
theorem b_1232 : Cond.classLink RX11 44 RX4 ∈ BIG := bi (tin_2 _ (List.mem_of_getElem? (i := 35) rfl)) rfl
theorem b_1233 : Cond.instantiable RX4 1 ∈ BIG := bi (tin_2 _ (List.mem_of_getElem? (i := 36) rfl)) rfl
theorem b_1234 : Cond.methodLinkNest RX11 46 yX4_init RX11 ∈ nests := ne (tin_2 _ (List.mem_of_getElem? (i := 37) rfl)) rfl
theorem b_1235 : Cond.classLink RX11 51 RX6 ∈ BIG := bi (tin_2 _ (List.mem_of_getElem? (i := 45) rfl)) rfl
theorem b_1236 : Cond.instantiable RX6 3 ∈ BIG := bi (tin_2 _ (List.mem_of_getElem? (i := 46) rfl)) rfl
theorem b_1237 : Cond.methodLinkNest RX11 53 yX6_init RX11 ∈ nests := ne (tin_2 _ (List.mem_of_getElem? (i := 47) rfl)) rfl
theorem b_1238 : Cond.classLink RX11 58 RX5 ∈ BIG := bi (tin_2 _ (List.mem_of_getElem? (i := 66) rfl)) rfl
theorem b_1239 : Cond.instantiable RX5 5 ∈ BIG := bi (tin_2 _ (List.mem_of_getElem? (i := 67) rfl)) rfl
theorem b_1240 : Cond.methodLinkNest RX11 60 yX5_init RX11 ∈ nests := ne (tin_2 _ (List.mem_of_getElem? (i := 68) rfl)) rfl
theorem b_1241 : Cond.classLink RX11 65 RX7 ∈ BIG := bi (tin_2 _ (List.mem_of_getElem? (i := 90) rfl)) rfl
theorem b_1242 : Cond.instantiable RX7 4 ∈ BIG := bi (tin_2 _ (List.mem_of_getElem? (i := 91) rfl)) rfl
theorem b_1243 : Cond.methodLinkNest RX11 67 yX7_init RX11 ∈ nests := ne (tin_2 _ (List.mem_of_getElem? (i := 92) rfl)) rfl
theorem b_1244 : Cond.classLink RX11 72 RX2 ∈ BIG := bi (tin_2 _ (List.mem_of_getElem? (i := 111) rfl)) rfl
theorem b_1245 : Cond.instantiable RX2 4 ∈ BIG := bi (tin_2 _ (List.mem_of_getElem? (i := 112) rfl)) rfl
theorem b_1246 : Cond.methodLinkNest RX11 74 yX2_init RX11 ∈ nests := ne (tin_2 _ (List.mem_of_getElem? (i := 113) rfl)) rfl
theorem b_1247 : Cond.instantiable RX8 4 ∈ BIG := bi (tin_2 _ (List.mem_of_getElem? (i := 132) rfl)) rfl
theorem b_1248 : Cond.methodLinkNest RX11 79 yX8_init RX11 ∈ nests := ne (tin_2 _ (List.mem_of_getElem? (i := 133) rfl)) rfl
theorem b_1249 : Cond.code yX0_init cX0_init 1 none ∈ BIG := bi (tin_1 _ (List.mem_of_getElem? (i := 70) rfl)) rfl
theorem b_1250 : Cond.instanceMethod yX0_init ∈ BIG := bi (tin_1 _ (List.mem_of_getElem? (i := 69) rfl)) rfl
theorem b_1251 : Cond.code yX1_init cX1_init 1 none ∈ BIG := bi (tin_1 _ (List.mem_of_getElem? (i := 34) rfl)) rfl
theorem b_1252 : Cond.instanceMethod yX1_init ∈ BIG := bi (tin_1 _ (List.mem_of_getElem? (i := 33) rfl)) rfl
theorem b_1253 : Cond.code yX2_init cX2_init 1 none ∈ BIG := bi (tin_2 _ (List.mem_of_getElem? (i := 115) rfl)) rfl
theorem b_1254 : Cond.instanceMethod yX2_init ∈ BIG := bi (tin_2 _ (List.mem_of_getElem? (i := 114) rfl)) rfl
theorem b_1255 : Cond.code yX3_init cX3_init 1 none ∈ BIG := bi (tin_1 _ (List.mem_of_getElem? (i := 76) rfl)) rfl
theorem b_1256 : Cond.instanceMethod yX3_init ∈ BIG := bi (tin_1 _ (List.mem_of_getElem? (i := 75) rfl)) rfl
theorem b_1257 : Cond.code yX4_init cX4_init 1 none ∈ BIG := bi (tin_2 _ (List.mem_of_getElem? (i := 39) rfl)) rfl
theorem b_1258 : Cond.instanceMethod yX4_init ∈ BIG := bi (tin_2 _ (List.mem_of_getElem? (i := 38) rfl)) rfl
theorem b_1259 : Cond.code yX5_init cX5_init 1 none ∈ BIG := bi (tin_2 _ (List.mem_of_getElem? (i := 70) rfl)) rfl
theorem b_1260 : Cond.instanceMethod yX5_init ∈ BIG := bi (tin_2 _ (List.mem_of_getElem? (i := 69) rfl)) rfl
theorem b_1261 : Cond.code yX6_init cX6_init 1 none ∈ BIG := bi (tin_2 _ (List.mem_of_getElem? (i := 49) rfl)) rfl
theorem b_1262 : Cond.instanceMethod yX6_init ∈ BIG := bi (tin_2 _ (List.mem_of_getElem? (i := 48) rfl)) rfl
theorem b_1263 : Cond.code yX7_init cX7_init 1 none ∈ BIG := bi (tin_2 _ (List.mem_of_getElem? (i := 94) rfl)) rfl
theorem b_1264 : Cond.instanceMethod yX7_init ∈ BIG := bi (tin_2 _ (List.mem_of_getElem? (i := 93) rfl)) rfl
theorem b_1265 : Cond.code yX8_init cX8_init 1 none ∈ BIG := bi (tin_2 _ (List.mem_of_getElem? (i := 135) rfl)) rfl
theorem b_1266 : Cond.instanceMethod yX8_init ∈ BIG := bi (tin_2 _ (List.mem_of_getElem? (i := 134) rfl)) rfl
theorem b_1267 : Cond.code yX9_init cX9_init 1 none ∈ BIG := bi (tin_1 _ (List.mem_of_getElem? (i := 40) rfl)) rfl
theorem b_1268 : Cond.instanceMethod yX9_init ∈ BIG := bi (tin_1 _ (List.mem_of_getElem? (i := 39) rfl)) rfl
theorem b_1269 : Cond.code yX10_init cX10_init 1 none ∈ BIG := bi (tin_1 _ (List.mem_of_getElem? (i := 235) rfl)) rfl
theorem b_1270 : Cond.instanceMethod yX10_init ∈ BIG := bi (tin_1 _ (List.mem_of_getElem? (i := 234) rfl)) rfl
theorem m_yX0_init : MI yX0_init cX0_init 1 0 := ⟨b_1249, b_1250, b_21, rfl, by decide +kernel⟩
theorem m_yX1_init : MI yX1_init cX1_init 1 0 := ⟨b_1251, b_1252, b_741, rfl, by decide +kernel⟩
theorem m_yX2_init : MI yX2_init cX2_init 1 0 := ⟨b_1253, b_1254, b_236, rfl, by decide +kernel⟩
theorem m_yX3_init : MI yX3_init cX3_init 1 0 := ⟨b_1255, b_1256, b_652, rfl, by decide +kernel⟩
theorem m_yX4_init : MI yX4_init cX4_init 1 0 := ⟨b_1257, b_1258, b_94, rfl, by decide +kernel⟩
theorem m_yX5_init : MI yX5_init cX5_init 1 0 := ⟨b_1259, b_1260, b_161, rfl, by decide +kernel⟩
theorem m_yX6_init : MI yX6_init cX6_init 1 0 := ⟨b_1261, b_1262, b_174, rfl, by decide +kernel⟩
theorem m_yX7_init : MI yX7_init cX7_init 1 0 := ⟨b_1263, b_1264, b_178, rfl, by decide +kernel⟩
theorem m_yX8_init : MI yX8_init cX8_init 1 0 := ⟨b_1265, b_1266, b_563, rfl, by decide +kernel⟩
theorem m_yX9_init : MI yX9_init cX9_init 1 0 := ⟨b_1267, b_1268, b_567, rfl, by decide +kernel⟩
theorem m_yX10_init : MI yX10_init cX10_init 1 0 := ⟨b_1269, b_1270, b_243, rfl, by decide +kernel⟩
theorem dX0_init_0 : decode cX0_init 0 = .ok (.aload_n 0, 1) := by decide +kernel
theorem dX0_init_1 : decode cX0_init 1 = .ok (.invokespecial 3, 3) := by decide +kernel
theorem dX0_init_4 : decode cX0_init 4 = .ok (.aload_n 0, 1) := by decide +kernel
theorem dX0_init_5 : decode cX0_init 5 = .ok (.bipush 8, 2) := by decide +kernel
theorem dX0_init_7 : decode cX0_init 7 = .ok (.newarray .int, 2) := by decide +kernel
theorem dX0_init_9 : decode cX0_init 9 = .ok (.putfield 9, 3) := by decide +kernel
theorem dX0_init_12 : decode cX0_init 12 = .ok (.aload_n 0, 1) := by decide +kernel
theorem dX0_init_13 : decode cX0_init 13 = .ok (.bipush 32, 2) := by decide +kernel
theorem dX0_init_15 : decode cX0_init 15 = .ok (.newarray .int, 2) := by decide +kernel
theorem dX0_init_17 : decode cX0_init 17 = .ok (.putfield 15, 3) := by decide +kernel
theorem dX0_init_20 : decode cX0_init 20 = .ok (.aload_n 0, 1) := by decide +kernel
theorem dX0_init_21 : decode cX0_init 21 = .ok (.iconst 4, 1) := by decide +kernel
theorem dX0_init_22 : decode cX0_init 22 = .ok (.newarray .int, 2) := by decide +kernel
theorem dX0_init_24 : decode cX0_init 24 = .ok (.putfield 18, 3) := by decide +kernel
theorem dX0_init_27 : decode cX0_init 27 = .ok (.aload_n 0, 1) := by decide +kernel
theorem dX0_init_28 : decode cX0_init 28 = .ok (.iconst 4, 1) := by decide +kernel
theorem dX0_init_29 : decode cX0_init 29 = .ok (.newarray .int, 2) := by decide +kernel
theorem dX0_init_31 : decode cX0_init 31 = .ok (.putfield 21, 3) := by decide +kernel
theorem dX0_init_34 : decode cX0_init 34 = .ok (.aload_n 0, 1) := by decide +kernel
theorem dX0_init_35 : decode cX0_init 35 = .ok (.bipush 8, 2) := by decide +kernel
theorem dX0_init_37 : decode cX0_init 37 = .ok (.newarray .int, 2) := by decide +kernel
theorem dX0_init_39 : decode cX0_init 39 = .ok (.putfield 24, 3) := by decide +kernel
theorem dX0_init_42 : decode cX0_init 42 = .ok (.aload_n 0, 1) := by decide +kernel
theorem dX0_init_43 : decode cX0_init 43 = .ok (.bipush 8, 2) := by decide +kernel
theorem dX0_init_45 : decode cX0_init 45 = .ok (.newarray .int, 2) := by decide +kernel
theorem dX0_init_47 : decode cX0_init 47 = .ok (.putfield 27, 3) := by decide +kernel
theorem dX0_init_50 : decode cX0_init 50 = .ok (.aload_n 0, 1) := by decide +kernel
theorem dX0_init_51 : decode cX0_init 51 = .ok (.iconst 4, 1) := by decide +kernel
theorem dX0_init_52 : decode cX0_init 52 = .ok (.newarray .int, 2) := by decide +kernel
theorem dX0_init_54 : decode cX0_init 54 = .ok (.putfield 30, 3) := by decide +kernel
theorem dX0_init_57 : decode cX0_init 57 = .ok (.aload_n 0, 1) := by decide +kernel
theorem dX0_init_58 : decode cX0_init 58 = .ok (.bipush 20, 2) := by decide +kernel
theorem dX0_init_60 : decode cX0_init 60 = .ok (.newarray .int, 2) := by decide +kernel
theorem dX0_init_62 : decode cX0_init 62 = .ok (.putfield 33, 3) := by decide +kernel
theorem dX0_init_65 : decode cX0_init 65 = .ok (.aload_n 0, 1) := by decide +kernel
theorem dX0_init_66 : decode cX0_init 66 = .ok (.bipush 6, 2) := by decide +kernel
theorem dX0_init_68 : decode cX0_init 68 = .ok (.newarray .int, 2) := by decide +kernel
theorem dX0_init_70 : decode cX0_init 70 = .ok (.putfield 36, 3) := by decide +kernel
theorem dX0_init_73 : decode cX0_init 73 = .ok (.aload_n 0, 1) := by decide +kernel
theorem dX0_init_74 : decode cX0_init 74 = .ok (.new 39, 3) := by decide +kernel
theorem dX0_init_77 : decode cX0_init 77 = .ok (.dup, 1) := by decide +kernel
theorem dX0_init_78 : decode cX0_init 78 = .ok (.invokespecial 41, 3) := by decide +kernel
theorem dX0_init_81 : decode cX0_init 81 = .ok (.putfield 42, 3) := by decide +kernel
theorem dX0_init_84 : decode cX0_init 84 = .ok (.return_, 1) := by decide +kernel
theorem dX10_init_0 : decode cX10_init 0 = .ok (.aload_n 0, 1) := by decide +kernel
theorem dX10_init_1 : decode cX10_init 1 = .ok (.invokespecial 3, 3) := by decide +kernel
theorem dX10_init_4 : decode cX10_init 4 = .ok (.aload_n 0, 1) := by decide +kernel
theorem dX10_init_5 : decode cX10_init 5 = .ok (.bipush 10, 2) := by decide +kernel
theorem dX10_init_7 : decode cX10_init 7 = .ok (.newarray .int, 2) := by decide +kernel
theorem dX10_init_9 : decode cX10_init 9 = .ok (.putfield 9, 3) := by decide +kernel
theorem dX10_init_12 : decode cX10_init 12 = .ok (.aload_n 0, 1) := by decide +kernel
theorem dX10_init_13 : decode cX10_init 13 = .ok (.bipush 10, 2) := by decide +kernel
theorem dX10_init_15 : decode cX10_init 15 = .ok (.newarray .int, 2) := by decide +kernel
theorem dX10_init_17 : decode cX10_init 17 = .ok (.putfield 15, 3) := by decide +kernel
theorem dX10_init_20 : decode cX10_init 20 = .ok (.aload_n 0, 1) := by decide +kernel
theorem dX10_init_21 : decode cX10_init 21 = .ok (.bipush 10, 2) := by decide +kernel
theorem dX10_init_23 : decode cX10_init 23 = .ok (.newarray .int, 2) := by decide +kernel
theorem dX10_init_25 : decode cX10_init 25 = .ok (.putfield 18, 3) := by decide +kernel
theorem dX10_init_28 : decode cX10_init 28 = .ok (.aload_n 0, 1) := by decide +kernel
theorem dX10_init_29 : decode cX10_init 29 = .ok (.bipush 6, 2) := by decide +kernel
theorem dX10_init_31 : decode cX10_init 31 = .ok (.newarray .int, 2) := by decide +kernel
theorem dX10_init_33 : decode cX10_init 33 = .ok (.putfield 21, 3) := by decide +kernel
theorem dX10_init_36 : decode cX10_init 36 = .ok (.aload_n 0, 1) := by decide +kernel
theorem dX10_init_37 : decode cX10_init 37 = .ok (.bipush 6, 2) := by decide +kernel
theorem dX10_init_39 : decode cX10_init 39 = .ok (.newarray .int, 2) := by decide +kernel
theorem dX10_init_41 : decode cX10_init 41 = .ok (.putfield 24, 3) := by decide +kernel
theorem dX10_init_44 : decode cX10_init 44 = .ok (.return_, 1) := by decide +kernel
theorem dX11_init_0 : decode cX11_init 0 = .ok (.aload_n 0, 1) := by decide +kernel
theorem dX11_init_1 : decode cX11_init 1 = .ok (.invokespecial 1, 3) := by decide +kernel
theorem dX11_init_4 : decode cX11_init 4 = .ok (.aload_n 0, 1) := by decide +kernel
theorem dX11_init_5 : decode cX11_init 5 = .ok (.new 7, 3) := by decide +kernel
theorem dX11_init_8 : decode cX11_init 8 = .ok (.dup, 1) := by decide +kernel
theorem dX11_init_9 : decode cX11_init 9 = .ok (.invokespecial 9, 3) := by decide +kernel
theorem dX11_init_12 : decode cX11_init 12 = .ok (.putfield 10, 3) := by decide +kernel
theorem dX11_init_15 : decode cX11_init 15 = .ok (.aload_n 0, 1) := by decide +kernel
theorem dX11_init_16 : decode cX11_init 16 = .ok (.new 16, 3) := by decide +kernel
theorem dX11_init_19 : decode cX11_init 19 = .ok (.dup, 1) := by decide +kernel
theorem dX11_init_20 : decode cX11_init 20 = .ok (.invokespecial 18, 3) := by decide +kernel
theorem dX11_init_23 : decode cX11_init 23 = .ok (.putfield 19, 3) := by decide +kernel
theorem dX11_init_26 : decode cX11_init 26 = .ok (.aload_n 0, 1) := by decide +kernel
theorem dX11_init_27 : decode cX11_init 27 = .ok (.iconst 3, 1) := by decide +kernel
theorem dX11_init_28 : decode cX11_init 28 = .ok (.anewarray 16, 3) := by decide +kernel
theorem dX11_init_31 : decode cX11_init 31 = .ok (.putfield 23, 3) := by decide +kernel
theorem dX11_init_34 : decode cX11_init 34 = .ok (.aload_n 0, 1) := by decide +kernel
theorem dX11_init_35 : decode cX11_init 35 = .ok (.iconst 3, 1) := by decide +kernel
theorem dX11_init_36 : decode cX11_init 36 = .ok (.newarray .boolean, 2) := by decide +kernel
theorem dX11_init_38 : decode cX11_init 38 = .ok (.putfield 27, 3) := by decide +kernel
theorem dX11_init_41 : decode cX11_init 41 = .ok (.aload_n 0, 1) := by decide +kernel
theorem dX11_init_42 : decode cX11_init 42 = .ok (.iconst 4, 1) := by decide +kernel
theorem dX11_init_43 : decode cX11_init 43 = .ok (.anewarray 31, 3) := by decide +kernel
theorem dX11_init_46 : decode cX11_init 46 = .ok (.putfield 33, 3) := by decide +kernel
theorem dX11_init_49 : decode cX11_init 49 = .ok (.aload_n 0, 1) := by decide +kernel
theorem dX11_init_50 : decode cX11_init 50 = .ok (.new 37, 3) := by decide +kernel
theorem dX11_init_53 : decode cX11_init 53 = .ok (.dup, 1) := by decide +kernel
theorem dX11_init_54 : decode cX11_init 54 = .ok (.invokespecial 39, 3) := by decide +kernel
theorem dX11_init_57 : decode cX11_init 57 = .ok (.putfield 40, 3) := by decide +kernel
theorem dX11_init_60 : decode cX11_init 60 = .ok (.aload_n 0, 1) := by decide +kernel
theorem dX11_init_61 : decode cX11_init 61 = .ok (.new 44, 3) := by decide +kernel
theorem dX11_init_64 : decode cX11_init 64 = .ok (.dup, 1) := by decide +kernel
theorem dX11_init_65 : decode cX11_init 65 = .ok (.invokespecial 46, 3) := by decide +kernel
theorem dX11_init_68 : decode cX11_init 68 = .ok (.putfield 47, 3) := by decide +kernel
theorem dX11_init_71 : decode cX11_init 71 = .ok (.aload_n 0, 1) := by decide +kernel
theorem dX11_init_72 : decode cX11_init 72 = .ok (.new 51, 3) := by decide +kernel
theorem dX11_init_75 : decode cX11_init 75 = .ok (.dup, 1) := by decide +kernel
theorem dX11_init_76 : decode cX11_init 76 = .ok (.invokespecial 53, 3) := by decide +kernel
theorem dX11_init_79 : decode cX11_init 79 = .ok (.putfield 54, 3) := by decide +kernel
theorem dX11_init_82 : decode cX11_init 82 = .ok (.aload_n 0, 1) := by decide +kernel
theorem dX11_init_83 : decode cX11_init 83 = .ok (.new 58, 3) := by decide +kernel
theorem dX11_init_86 : decode cX11_init 86 = .ok (.dup, 1) := by decide +kernel
theorem dX11_init_87 : decode cX11_init 87 = .ok (.invokespecial 60, 3) := by decide +kernel
theorem dX11_init_90 : decode cX11_init 90 = .ok (.putfield 61, 3) := by decide +kernel
theorem dX11_init_93 : decode cX11_init 93 = .ok (.aload_n 0, 1) := by decide +kernel
theorem dX11_init_94 : decode cX11_init 94 = .ok (.new 65, 3) := by decide +kernel
theorem dX11_init_97 : decode cX11_init 97 = .ok (.dup, 1) := by decide +kernel
theorem dX11_init_98 : decode cX11_init 98 = .ok (.invokespecial 67, 3) := by decide +kernel
theorem dX11_init_101 : decode cX11_init 101 = .ok (.putfield 68, 3) := by decide +kernel
theorem dX11_init_104 : decode cX11_init 104 = .ok (.aload_n 0, 1) := by decide +kernel
theorem dX11_init_105 : decode cX11_init 105 = .ok (.new 72, 3) := by decide +kernel
theorem dX11_init_108 : decode cX11_init 108 = .ok (.dup, 1) := by decide +kernel
theorem dX11_init_109 : decode cX11_init 109 = .ok (.invokespecial 74, 3) := by decide +kernel
theorem dX11_init_112 : decode cX11_init 112 = .ok (.putfield 75, 3) := by decide +kernel
theorem dX11_init_115 : decode cX11_init 115 = .ok (.iconst 0, 1) := by decide +kernel
theorem dX11_init_116 : decode cX11_init 116 = .ok (.istore_n 1, 1) := by decide +kernel
theorem dX11_init_117 : decode cX11_init 117 = .ok (.iload_n 1, 1) := by decide +kernel
theorem dX11_init_118 : decode cX11_init 118 = .ok (.iconst 3, 1) := by decide +kernel
theorem dX11_init_119 : decode cX11_init 119 = .ok (.if_icmp .ge 22, 3) := by decide +kernel
theorem dX11_init_122 : decode cX11_init 122 = .ok (.aload_n 0, 1) := by decide +kernel
theorem dX11_init_123 : decode cX11_init 123 = .ok (.getfield 23, 3) := by decide +kernel
theorem dX11_init_126 : decode cX11_init 126 = .ok (.iload_n 1, 1) := by decide +kernel
theorem dX11_init_127 : decode cX11_init 127 = .ok (.new 16, 3) := by decide +kernel
theorem dX11_init_130 : decode cX11_init 130 = .ok (.dup, 1) := by decide +kernel
theorem dX11_init_131 : decode cX11_init 131 = .ok (.invokespecial 18, 3) := by decide +kernel
theorem dX11_init_134 : decode cX11_init 134 = .ok (.aastore, 1) := by decide +kernel
theorem dX11_init_135 : decode cX11_init 135 = .ok (.iinc 1 1, 3) := by decide +kernel
theorem dX11_init_138 : decode cX11_init 138 = .ok (.goto (-21), 3) := by decide +kernel
theorem dX11_init_141 : decode cX11_init 141 = .ok (.iconst 0, 1) := by decide +kernel
theorem dX11_init_142 : decode cX11_init 142 = .ok (.istore_n 1, 1) := by decide +kernel
theorem dX11_init_143 : decode cX11_init 143 = .ok (.iload_n 1, 1) := by decide +kernel
theorem dX11_init_144 : decode cX11_init 144 = .ok (.iconst 4, 1) := by decide +kernel
theorem dX11_init_145 : decode cX11_init 145 = .ok (.if_icmp .ge 22, 3) := by decide +kernel
theorem dX11_init_148 : decode cX11_init 148 = .ok (.aload_n 0, 1) := by decide +kernel
theorem dX11_init_149 : decode cX11_init 149 = .ok (.getfield 33, 3) := by decide +kernel
theorem dX11_init_152 : decode cX11_init 152 = .ok (.iload_n 1, 1) := by decide +kernel
theorem dX11_init_153 : decode cX11_init 153 = .ok (.new 31, 3) := by decide +kernel
theorem dX11_init_156 : decode cX11_init 156 = .ok (.dup, 1) := by decide +kernel
theorem dX11_init_157 : decode cX11_init 157 = .ok (.invokespecial 79, 3) := by decide +kernel
theorem dX11_init_160 : decode cX11_init 160 = .ok (.aastore, 1) := by decide +kernel
theorem dX11_init_161 : decode cX11_init 161 = .ok (.iinc 1 1, 3) := by decide +kernel
theorem dX11_init_164 : decode cX11_init 164 = .ok (.goto (-21), 3) := by decide +kernel
theorem dX11_init_167 : decode cX11_init 167 = .ok (.return_, 1) := by decide +kernel
theorem dX1_init_0 : decode cX1_init 0 = .ok (.aload_n 0, 1) := by decide +kernel
theorem dX1_init_1 : decode cX1_init 1 = .ok (.invokespecial 3, 3) := by decide +kernel
theorem dX1_init_4 : decode cX1_init 4 = .ok (.aload_n 0, 1) := by decide +kernel
theorem dX1_init_5 : decode cX1_init 5 = .ok (.new 9, 3) := by decide +kernel
theorem dX1_init_8 : decode cX1_init 8 = .ok (.dup, 1) := by decide +kernel
theorem dX1_init_9 : decode cX1_init 9 = .ok (.invokespecial 11, 3) := by decide +kernel
theorem dX1_init_12 : decode cX1_init 12 = .ok (.putfield 12, 3) := by decide +kernel
theorem dX1_init_15 : decode cX1_init 15 = .ok (.aload_n 0, 1) := by decide +kernel
theorem dX1_init_16 : decode cX1_init 16 = .ok (.new 18, 3) := by decide +kernel
theorem dX1_init_19 : decode cX1_init 19 = .ok (.dup, 1) := by decide +kernel
theorem dX1_init_20 : decode cX1_init 20 = .ok (.invokespecial 20, 3) := by decide +kernel
theorem dX1_init_23 : decode cX1_init 23 = .ok (.putfield 21, 3) := by decide +kernel
theorem dX1_init_26 : decode cX1_init 26 = .ok (.aload_n 0, 1) := by decide +kernel
theorem dX1_init_27 : decode cX1_init 27 = .ok (.iconst (-1), 1) := by decide +kernel
theorem dX1_init_28 : decode cX1_init 28 = .ok (.putfield 25, 3) := by decide +kernel
theorem dX1_init_31 : decode cX1_init 31 = .ok (.return_, 1) := by decide +kernel
theorem dX2_init_0 : decode cX2_init 0 = .ok (.aload_n 0, 1) := by decide +kernel
theorem dX2_init_1 : decode cX2_init 1 = .ok (.invokespecial 3, 3) := by decide +kernel
theorem dX2_init_4 : decode cX2_init 4 = .ok (.aload_n 0, 1) := by decide +kernel
theorem dX2_init_5 : decode cX2_init 5 = .ok (.bipush 6, 2) := by decide +kernel
theorem dX2_init_7 : decode cX2_init 7 = .ok (.newarray .int, 2) := by decide +kernel
theorem dX2_init_9 : decode cX2_init 9 = .ok (.putfield 9, 3) := by decide +kernel
theorem dX2_init_12 : decode cX2_init 12 = .ok (.aload_n 0, 1) := by decide +kernel
theorem dX2_init_13 : decode cX2_init 13 = .ok (.bipush 6, 2) := by decide +kernel
theorem dX2_init_15 : decode cX2_init 15 = .ok (.newarray .int, 2) := by decide +kernel
theorem dX2_init_17 : decode cX2_init 17 = .ok (.putfield 15, 3) := by decide +kernel
theorem dX2_init_20 : decode cX2_init 20 = .ok (.aload_n 0, 1) := by decide +kernel
theorem dX2_init_21 : decode cX2_init 21 = .ok (.iconst 4, 1) := by decide +kernel
theorem dX2_init_22 : decode cX2_init 22 = .ok (.newarray .int, 2) := by decide +kernel
theorem dX2_init_24 : decode cX2_init 24 = .ok (.putfield 18, 3) := by decide +kernel
theorem dX2_init_27 : decode cX2_init 27 = .ok (.return_, 1) := by decide +kernel
theorem dX3_init_0 : decode cX3_init 0 = .ok (.aload_n 0, 1) := by decide +kernel
theorem dX3_init_1 : decode cX3_init 1 = .ok (.invokespecial 3, 3) := by decide +kernel
theorem dX3_init_4 : decode cX3_init 4 = .ok (.aload_n 0, 1) := by decide +kernel
theorem dX3_init_5 : decode cX3_init 5 = .ok (.bipush 60, 2) := by decide +kernel
theorem dX3_init_7 : decode cX3_init 7 = .ok (.newarray .int, 2) := by decide +kernel
theorem dX3_init_9 : decode cX3_init 9 = .ok (.putfield 9, 3) := by decide +kernel
theorem dX3_init_12 : decode cX3_init 12 = .ok (.aload_n 0, 1) := by decide +kernel
theorem dX3_init_13 : decode cX3_init 13 = .ok (.bipush 60, 2) := by decide +kernel
theorem dX3_init_15 : decode cX3_init 15 = .ok (.newarray .int, 2) := by decide +kernel
theorem dX3_init_17 : decode cX3_init 17 = .ok (.putfield 15, 3) := by decide +kernel
theorem dX3_init_20 : decode cX3_init 20 = .ok (.aload_n 0, 1) := by decide +kernel
theorem dX3_init_21 : decode cX3_init 21 = .ok (.bipush 60, 2) := by decide +kernel
theorem dX3_init_23 : decode cX3_init 23 = .ok (.newarray .int, 2) := by decide +kernel
theorem dX3_init_25 : decode cX3_init 25 = .ok (.putfield 18, 3) := by decide +kernel
theorem dX3_init_28 : decode cX3_init 28 = .ok (.return_, 1) := by decide +kernel
theorem dX4_init_0 : decode cX4_init 0 = .ok (.aload_n 0, 1) := by decide +kernel
theorem dX4_init_1 : decode cX4_init 1 = .ok (.invokespecial 3, 3) := by decide +kernel
theorem dX4_init_4 : decode cX4_init 4 = .ok (.aload_n 0, 1) := by decide +kernel
theorem dX4_init_5 : decode cX4_init 5 = .ok (.sipush 256, 3) := by decide +kernel
theorem dX4_init_8 : decode cX4_init 8 = .ok (.newarray .int, 2) := by decide +kernel
theorem dX4_init_10 : decode cX4_init 10 = .ok (.putfield 9, 3) := by decide +kernel
theorem dX4_init_13 : decode cX4_init 13 = .ok (.return_, 1) := by decide +kernel
theorem dX5_init_0 : decode cX5_init 0 = .ok (.aload_n 0, 1) := by decide +kernel
theorem dX5_init_1 : decode cX5_init 1 = .ok (.invokespecial 3, 3) := by decide +kernel
theorem dX5_init_4 : decode cX5_init 4 = .ok (.aload_n 0, 1) := by decide +kernel
theorem dX5_init_5 : decode cX5_init 5 = .ok (.sipush 2816, 3) := by decide +kernel
theorem dX5_init_8 : decode cX5_init 8 = .ok (.newarray .int, 2) := by decide +kernel
theorem dX5_init_10 : decode cX5_init 10 = .ok (.putfield 9, 3) := by decide +kernel
theorem dX5_init_13 : decode cX5_init 13 = .ok (.aload_n 0, 1) := by decide +kernel
theorem dX5_init_14 : decode cX5_init 14 = .ok (.bipush 10, 2) := by decide +kernel
theorem dX5_init_16 : decode cX5_init 16 = .ok (.newarray .int, 2) := by decide +kernel
theorem dX5_init_18 : decode cX5_init 18 = .ok (.putfield 15, 3) := by decide +kernel
theorem dX5_init_21 : decode cX5_init 21 = .ok (.return_, 1) := by decide +kernel
theorem dX6_init_0 : decode cX6_init 0 = .ok (.aload_n 0, 1) := by decide +kernel
theorem dX6_init_1 : decode cX6_init 1 = .ok (.invokespecial 3, 3) := by decide +kernel
theorem dX6_init_4 : decode cX6_init 4 = .ok (.aload_n 0, 1) := by decide +kernel
theorem dX6_init_5 : decode cX6_init 5 = .ok (.sipush 256, 3) := by decide +kernel
theorem dX6_init_8 : decode cX6_init 8 = .ok (.newarray .int, 2) := by decide +kernel
theorem dX6_init_10 : decode cX6_init 10 = .ok (.putfield 9, 3) := by decide +kernel
theorem dX6_init_13 : decode cX6_init 13 = .ok (.aload_n 0, 1) := by decide +kernel
theorem dX6_init_14 : decode cX6_init 14 = .ok (.sipush 256, 3) := by decide +kernel
theorem dX6_init_17 : decode cX6_init 17 = .ok (.newarray .int, 2) := by decide +kernel
theorem dX6_init_19 : decode cX6_init 19 = .ok (.putfield 15, 3) := by decide +kernel
theorem dX6_init_22 : decode cX6_init 22 = .ok (.return_, 1) := by decide +kernel
theorem dX7_init_0 : decode cX7_init 0 = .ok (.aload_n 0, 1) := by decide +kernel
theorem dX7_init_1 : decode cX7_init 1 = .ok (.invokespecial 3, 3) := by decide +kernel
theorem dX7_init_4 : decode cX7_init 4 = .ok (.aload_n 0, 1) := by decide +kernel
theorem dX7_init_5 : decode cX7_init 5 = .ok (.sipush 256, 3) := by decide +kernel
theorem dX7_init_8 : decode cX7_init 8 = .ok (.newarray .int, 2) := by decide +kernel
theorem dX7_init_10 : decode cX7_init 10 = .ok (.putfield 9, 3) := by decide +kernel
theorem dX7_init_13 : decode cX7_init 13 = .ok (.aload_n 0, 1) := by decide +kernel
theorem dX7_init_14 : decode cX7_init 14 = .ok (.sipush 256, 3) := by decide +kernel
theorem dX7_init_17 : decode cX7_init 17 = .ok (.newarray .int, 2) := by decide +kernel
theorem dX7_init_19 : decode cX7_init 19 = .ok (.putfield 15, 3) := by decide +kernel
theorem dX7_init_22 : decode cX7_init 22 = .ok (.return_, 1) := by decide +kernel
theorem dX8_init_0 : decode cX8_init 0 = .ok (.aload_n 0, 1) := by decide +kernel
theorem dX8_init_1 : decode cX8_init 1 = .ok (.invokespecial 3, 3) := by decide +kernel
theorem dX8_init_4 : decode cX8_init 4 = .ok (.aload_n 0, 1) := by decide +kernel
theorem dX8_init_5 : decode cX8_init 5 = .ok (.bipush 60, 2) := by decide +kernel
theorem dX8_init_7 : decode cX8_init 7 = .ok (.newarray .long, 2) := by decide +kernel
theorem dX8_init_9 : decode cX8_init 9 = .ok (.putfield 9, 3) := by decide +kernel
theorem dX8_init_12 : decode cX8_init 12 = .ok (.return_, 1) := by decide +kernel
theorem dX9_init_0 : decode cX9_init 0 = .ok (.aload_n 0, 1) := by decide +kernel
theorem dX9_init_1 : decode cX9_init 1 = .ok (.invokespecial 3, 3) := by decide +kernel
theorem dX9_init_4 : decode cX9_init 4 = .ok (.aload_n 0, 1) := by decide +kernel
theorem dX9_init_5 : decode cX9_init 5 = .ok (.sipush 900, 3) := by decide +kernel
theorem dX9_init_8 : decode cX9_init 8 = .ok (.newarray .byte, 2) := by decide +kernel
theorem dX9_init_10 : decode cX9_init 10 = .ok (.putfield 9, 3) := by decide +kernel
theorem dX9_init_13 : decode cX9_init 13 = .ok (.return_, 1) := by decide +kernel
