theorem b_267 : Cond.constant RJ6 265 (1431655765) ∈ BIG := bi (tin_3 _ (List.mem_of_getElem? (i := 220) rfl)) rfl
theorem b_268 : Cond.constant RJ6 266 (858993459) ∈ BIG := bi (tin_3 _ (List.mem_of_getElem? (i := 221) rfl)) rfl
theorem b_269 : Cond.constant RJ6 267 (252645135) ∈ BIG := bi (tin_3 _ (List.mem_of_getElem? (i := 222) rfl)) rfl
theorem b_270 : Cond.constant RJ6 264 (65536) ∈ BIG := bi (tin_5 _ (List.mem_of_getElem? (i := 139) rfl)) rfl
theorem b_271 : Cond.methodLink RX0 111 yJ6_bitCount_0f7a4 ∈ BIG := bi (tin_3 _ (List.mem_of_getElem? (i := 217) rfl)) rfl
theorem b_272 : Cond.methodLink RX0 117 yX0_commonDivisor ∈ BIG := bi (tin_3 _ (List.mem_of_getElem? (i := 223) rfl)) rfl
theorem b_273 : Cond.methodLink RX0 152 yX0_everybody ∈ BIG := bi (tin_5 _ (List.mem_of_getElem? (i := 215) rfl)) rfl
theorem b_274 : Cond.methodLink RX0 155 yX0_knowingAfter ∈ BIG := bi (tin_5 _ (List.mem_of_getElem? (i := 216) rfl)) rfl
theorem b_275 : Cond.fieldLinkNest RX10 31 "GentleLetters$Row" "size" "I" RX11 ∈ nests := ne (tin_2 _ (List.mem_of_getElem? (i := 144) rfl)) rfl
theorem b_276 : Cond.fieldLinkNest RX10 39 "GentleLetters$Row" "numbers" "[J" RX11 ∈ nests := ne (tin_2 _ (List.mem_of_getElem? (i := 138) rfl)) rfl
theorem b_277 : Cond.constantLong RX10 43 (8) ∈ BIG := bi (tin_4 _ (List.mem_of_getElem? (i := 39) rfl)) rfl
theorem b_278 : Cond.fieldLinkNest RX10 45 "GentleLetters$Desk" "words" "I" RX11 ∈ nests := ne (tin_1 _ (List.mem_of_getElem? (i := 124) rfl)) rfl
theorem b_279 : Cond.fieldLinkNest RX10 82 "GentleLetters$Desk" "plans" "I" RX11 ∈ nests := ne (tin_1 _ (List.mem_of_getElem? (i := 131) rfl)) rfl
theorem b_280 : Cond.fieldLink RX10 85 "GentleLetters$Week" "fitting" "I" ∈ BIG := bi (tin_2 _ (List.mem_of_getElem? (i := 7) rfl)) rfl
theorem b_281 : Cond.fieldLink RX10 88 "GentleLetters$Week" "knowingDay" "I" ∈ BIG := bi (tin_2 _ (List.mem_of_getElem? (i := 9) rfl)) rfl
theorem b_282 : Cond.fieldLink RX10 91 "GentleLetters$Week" "knowingPlan" "I" ∈ BIG := bi (tin_2 _ (List.mem_of_getElem? (i := 11) rfl)) rfl
theorem b_283 : Cond.methodLinkNest RX10 94 yX0_plansWith RX11 ∈ nests := ne (tin_5 _ (List.mem_of_getElem? (i := 130) rfl)) rfl
theorem b_284 : Cond.methodLink RX10 97 yJ6_bitCount_0f7a4 ∈ BIG := bi (tin_5 _ (List.mem_of_getElem? (i := 135) rfl)) rfl
theorem b_285 : Cond.methodLink RX10 102 yJ6_numberOfTrailingZeros_0f7a4 ∈ BIG := bi (tin_5 _ (List.mem_of_getElem? (i := 136) rfl)) rfl
theorem b_286 : Cond.code yX0_commonDivisor cX0_commonDivisor 6 (some .int) ∈ BIG := bi (tin_3 _ (List.mem_of_getElem? (i := 225) rfl)) rfl
theorem b_287 : Cond.static yX0_commonDivisor ∈ BIG := bi (tin_3 _ (List.mem_of_getElem? (i := 224) rfl)) rfl
theorem b_288 : Cond.code yX0_everybody cX0_everybody 1 (some .int) ∈ BIG := bi (tin_5 _ (List.mem_of_getElem? (i := 202) rfl)) rfl
theorem b_289 : Cond.instanceMethod yX0_everybody ∈ BIG := bi (tin_5 _ (List.mem_of_getElem? (i := 201) rfl)) rfl
theorem b_290 : Cond.selects RX0 yX0_everybody yX0_everybody ∈ BIG := bi (sin_6 _ (List.mem_map.mpr ⟨(yX0_everybody, 20), List.mem_of_getElem? (i := 7) rfl, rfl⟩)) rfl
theorem b_291 : Cond.code yX0_knowingAfter cX0_knowingAfter 7 (some .int) ∈ BIG := bi (tin_5 _ (List.mem_of_getElem? (i := 206) rfl)) rfl
theorem b_292 : Cond.instanceMethod yX0_knowingAfter ∈ BIG := bi (tin_5 _ (List.mem_of_getElem? (i := 205) rfl)) rfl
theorem b_293 : Cond.selects RX0 yX0_knowingAfter yX0_knowingAfter ∈ BIG := bi (sin_6 _ (List.mem_map.mpr ⟨(yX0_knowingAfter, 20), List.mem_of_getElem? (i := 8) rfl, rfl⟩)) rfl
theorem b_294 : Cond.code yX0_plansWith cX0_plansWith 6 (some .int) ∈ BIG := bi (tin_5 _ (List.mem_of_getElem? (i := 133) rfl)) rfl
theorem b_295 : Cond.instanceMethod yX0_plansWith ∈ BIG := bi (tin_5 _ (List.mem_of_getElem? (i := 132) rfl)) rfl
theorem b_296 : Cond.selects RX0 yX0_plansWith yX0_plansWith ∈ BIG := bi (sin_6 _ (List.mem_map.mpr ⟨(yX0_plansWith, 20), List.mem_of_getElem? (i := 0) rfl, rfl⟩)) rfl
theorem b_297 : Cond.code yJ6_bitCount_0f7a4 cJ6_bitCount_0f7a4 1 (some .int) ∈ BIG := bi (tin_3 _ (List.mem_of_getElem? (i := 219) rfl)) rfl
theorem b_298 : Cond.static yJ6_bitCount_0f7a4 ∈ BIG := bi (tin_3 _ (List.mem_of_getElem? (i := 218) rfl)) rfl
theorem b_299 : Cond.initialized RJ6 ∈ BIG := bi (tin_1 _ (List.mem_of_getElem? (i := 21) rfl)) rfl
theorem b_300 : Cond.code yJ6_numberOfTrailingZeros_0f7a4 cJ6_numberOfTrailingZeros_0f7a4 2 (some .int) ∈ BIG := bi (tin_5 _ (List.mem_of_getElem? (i := 138) rfl)) rfl
theorem b_301 : Cond.static yJ6_numberOfTrailingZeros_0f7a4 ∈ BIG := bi (tin_5 _ (List.mem_of_getElem? (i := 137) rfl)) rfl
theorem b_302 : Cond.laysFinal RX8 RX8 "numbers" "[J" ∈ BIG := bi (tin_2 _ (List.mem_of_getElem? (i := 147) rfl)) rfl
theorem b_303 : Cond.lays RX8 RX8 "there" "Z" ∈ BIG := bi (tin_2 _ (List.mem_of_getElem? (i := 149) rfl)) rfl
theorem b_304 : Cond.lays RX8 RX8 "width" "I" ∈ BIG := bi (tin_2 _ (List.mem_of_getElem? (i := 151) rfl)) rfl
theorem b_305 : Cond.lays RX8 RX8 "size" "I" ∈ BIG := bi (tin_2 _ (List.mem_of_getElem? (i := 153) rfl)) rfl
theorem m_yX0_commonDivisor : MS yX0_commonDivisor cX0_commonDivisor 6 (some .int) 2 := ⟨b_286, b_287, b_21, by decide +kernel⟩
theorem m_yX0_everybody : MV yX0_everybody cX0_everybody 1 (some .int) 0 := ⟨b_288, b_289, b_290, b_21, by decide +kernel⟩
theorem m_yX0_knowingAfter : MV yX0_knowingAfter cX0_knowingAfter 7 (some .int) 2 := ⟨b_291, b_292, b_293, b_21, by decide +kernel⟩
theorem m_yX0_plansWith : MV yX0_plansWith cX0_plansWith 6 (some .int) 3 := ⟨b_294, b_295, b_296, b_21, by decide +kernel⟩
theorem m_yJ6_bitCount_0f7a4 : MS yJ6_bitCount_0f7a4 cJ6_bitCount_0f7a4 1 (some .int) 1 := ⟨b_297, b_298, b_299, by decide +kernel⟩
theorem m_yJ6_numberOfTrailingZeros_0f7a4 : MS yJ6_numberOfTrailingZeros_0f7a4 cJ6_numberOfTrailingZeros_0f7a4 2 (some .int) 1 := ⟨b_300, b_301, b_299, by decide +kernel⟩
theorem i_X8 : ∀ w ∈ u_ws RX8 TX8 4, w ∈ BIG := fun w hw => by
  obtain ⟨k, hk, rfl⟩ := List.mem_map.mp hw
  have hk := List.mem_range.mp hk
  match k, hk with
  | 0, _ => exact b_302
  | 1, _ => exact b_303
  | 2, _ => exact b_304
  | 3, _ => exact b_305
  | k + 4, hk => exact absurd hk (by omega)
theorem dJ6_bitCount_0f7a4_0 : decode cJ6_bitCount_0f7a4 0 = .ok (.iload_n 0, 1) := by decide +kernel
theorem dJ6_bitCount_0f7a4_1 : decode cJ6_bitCount_0f7a4 1 = .ok (.iload_n 0, 1) := by decide +kernel
theorem dJ6_bitCount_0f7a4_2 : decode cJ6_bitCount_0f7a4 2 = .ok (.iconst 1, 1) := by decide +kernel
theorem dJ6_bitCount_0f7a4_3 : decode cJ6_bitCount_0f7a4 3 = .ok (.iushr, 1) := by decide +kernel
theorem dJ6_bitCount_0f7a4_4 : decode cJ6_bitCount_0f7a4 4 = .ok (.ldc_w 265, 3) := by decide +kernel
theorem dJ6_bitCount_0f7a4_7 : decode cJ6_bitCount_0f7a4 7 = .ok (.iand, 1) := by decide +kernel
theorem dJ6_bitCount_0f7a4_8 : decode cJ6_bitCount_0f7a4 8 = .ok (.isub, 1) := by decide +kernel
theorem dJ6_bitCount_0f7a4_9 : decode cJ6_bitCount_0f7a4 9 = .ok (.istore_n 0, 1) := by decide +kernel
theorem dJ6_bitCount_0f7a4_10 : decode cJ6_bitCount_0f7a4 10 = .ok (.iload_n 0, 1) := by decide +kernel
theorem dJ6_bitCount_0f7a4_11 : decode cJ6_bitCount_0f7a4 11 = .ok (.ldc_w 266, 3) := by decide +kernel
theorem dJ6_bitCount_0f7a4_14 : decode cJ6_bitCount_0f7a4 14 = .ok (.iand, 1) := by decide +kernel
theorem dJ6_bitCount_0f7a4_15 : decode cJ6_bitCount_0f7a4 15 = .ok (.iload_n 0, 1) := by decide +kernel
theorem dJ6_bitCount_0f7a4_16 : decode cJ6_bitCount_0f7a4 16 = .ok (.iconst 2, 1) := by decide +kernel
theorem dJ6_bitCount_0f7a4_17 : decode cJ6_bitCount_0f7a4 17 = .ok (.iushr, 1) := by decide +kernel
theorem dJ6_bitCount_0f7a4_18 : decode cJ6_bitCount_0f7a4 18 = .ok (.ldc_w 266, 3) := by decide +kernel
theorem dJ6_bitCount_0f7a4_21 : decode cJ6_bitCount_0f7a4 21 = .ok (.iand, 1) := by decide +kernel
theorem dJ6_bitCount_0f7a4_22 : decode cJ6_bitCount_0f7a4 22 = .ok (.iadd, 1) := by decide +kernel
theorem dJ6_bitCount_0f7a4_23 : decode cJ6_bitCount_0f7a4 23 = .ok (.istore_n 0, 1) := by decide +kernel
theorem dJ6_bitCount_0f7a4_24 : decode cJ6_bitCount_0f7a4 24 = .ok (.iload_n 0, 1) := by decide +kernel
theorem dJ6_bitCount_0f7a4_25 : decode cJ6_bitCount_0f7a4 25 = .ok (.iload_n 0, 1) := by decide +kernel
theorem dJ6_bitCount_0f7a4_26 : decode cJ6_bitCount_0f7a4 26 = .ok (.iconst 4, 1) := by decide +kernel
theorem dJ6_bitCount_0f7a4_27 : decode cJ6_bitCount_0f7a4 27 = .ok (.iushr, 1) := by decide +kernel
theorem dJ6_bitCount_0f7a4_28 : decode cJ6_bitCount_0f7a4 28 = .ok (.iadd, 1) := by decide +kernel
theorem dJ6_bitCount_0f7a4_29 : decode cJ6_bitCount_0f7a4 29 = .ok (.ldc_w 267, 3) := by decide +kernel
theorem dJ6_bitCount_0f7a4_32 : decode cJ6_bitCount_0f7a4 32 = .ok (.iand, 1) := by decide +kernel
theorem dJ6_bitCount_0f7a4_33 : decode cJ6_bitCount_0f7a4 33 = .ok (.istore_n 0, 1) := by decide +kernel
theorem dJ6_bitCount_0f7a4_34 : decode cJ6_bitCount_0f7a4 34 = .ok (.iload_n 0, 1) := by decide +kernel
theorem dJ6_bitCount_0f7a4_35 : decode cJ6_bitCount_0f7a4 35 = .ok (.iload_n 0, 1) := by decide +kernel
theorem dJ6_bitCount_0f7a4_36 : decode cJ6_bitCount_0f7a4 36 = .ok (.bipush 8, 2) := by decide +kernel
theorem dJ6_bitCount_0f7a4_38 : decode cJ6_bitCount_0f7a4 38 = .ok (.iushr, 1) := by decide +kernel
theorem dJ6_bitCount_0f7a4_39 : decode cJ6_bitCount_0f7a4 39 = .ok (.iadd, 1) := by decide +kernel
theorem dJ6_bitCount_0f7a4_40 : decode cJ6_bitCount_0f7a4 40 = .ok (.istore_n 0, 1) := by decide +kernel
theorem dJ6_bitCount_0f7a4_41 : decode cJ6_bitCount_0f7a4 41 = .ok (.iload_n 0, 1) := by decide +kernel
theorem dJ6_bitCount_0f7a4_42 : decode cJ6_bitCount_0f7a4 42 = .ok (.iload_n 0, 1) := by decide +kernel
theorem dJ6_bitCount_0f7a4_43 : decode cJ6_bitCount_0f7a4 43 = .ok (.bipush 16, 2) := by decide +kernel
theorem dJ6_bitCount_0f7a4_45 : decode cJ6_bitCount_0f7a4 45 = .ok (.iushr, 1) := by decide +kernel
theorem dJ6_bitCount_0f7a4_46 : decode cJ6_bitCount_0f7a4 46 = .ok (.iadd, 1) := by decide +kernel
theorem dJ6_bitCount_0f7a4_47 : decode cJ6_bitCount_0f7a4 47 = .ok (.istore_n 0, 1) := by decide +kernel
theorem dJ6_bitCount_0f7a4_48 : decode cJ6_bitCount_0f7a4 48 = .ok (.iload_n 0, 1) := by decide +kernel
theorem dJ6_bitCount_0f7a4_49 : decode cJ6_bitCount_0f7a4 49 = .ok (.bipush 63, 2) := by decide +kernel
theorem dJ6_bitCount_0f7a4_51 : decode cJ6_bitCount_0f7a4 51 = .ok (.iand, 1) := by decide +kernel
theorem dJ6_bitCount_0f7a4_52 : decode cJ6_bitCount_0f7a4 52 = .ok (.ireturn, 1) := by decide +kernel
theorem dJ6_numberOfTrailingZeros_0f7a4_0 : decode cJ6_numberOfTrailingZeros_0f7a4 0 = .ok (.iload_n 0, 1) := by decide +kernel
theorem dJ6_numberOfTrailingZeros_0f7a4_1 : decode cJ6_numberOfTrailingZeros_0f7a4 1 = .ok (.iconst (-1), 1) := by decide +kernel
theorem dJ6_numberOfTrailingZeros_0f7a4_2 : decode cJ6_numberOfTrailingZeros_0f7a4 2 = .ok (.ixor, 1) := by decide +kernel
theorem dJ6_numberOfTrailingZeros_0f7a4_3 : decode cJ6_numberOfTrailingZeros_0f7a4 3 = .ok (.iload_n 0, 1) := by decide +kernel
theorem dJ6_numberOfTrailingZeros_0f7a4_4 : decode cJ6_numberOfTrailingZeros_0f7a4 4 = .ok (.iconst 1, 1) := by decide +kernel
theorem dJ6_numberOfTrailingZeros_0f7a4_5 : decode cJ6_numberOfTrailingZeros_0f7a4 5 = .ok (.isub, 1) := by decide +kernel
theorem dJ6_numberOfTrailingZeros_0f7a4_6 : decode cJ6_numberOfTrailingZeros_0f7a4 6 = .ok (.iand, 1) := by decide +kernel
theorem dJ6_numberOfTrailingZeros_0f7a4_7 : decode cJ6_numberOfTrailingZeros_0f7a4 7 = .ok (.istore_n 0, 1) := by decide +kernel
theorem dJ6_numberOfTrailingZeros_0f7a4_8 : decode cJ6_numberOfTrailingZeros_0f7a4 8 = .ok (.iload_n 0, 1) := by decide +kernel
theorem dJ6_numberOfTrailingZeros_0f7a4_9 : decode cJ6_numberOfTrailingZeros_0f7a4 9 = .ok (.ifCond .gt 8, 3) := by decide +kernel
theorem dJ6_numberOfTrailingZeros_0f7a4_12 : decode cJ6_numberOfTrailingZeros_0f7a4 12 = .ok (.iload_n 0, 1) := by decide +kernel
theorem dJ6_numberOfTrailingZeros_0f7a4_13 : decode cJ6_numberOfTrailingZeros_0f7a4 13 = .ok (.bipush 32, 2) := by decide +kernel
theorem dJ6_numberOfTrailingZeros_0f7a4_15 : decode cJ6_numberOfTrailingZeros_0f7a4 15 = .ok (.iand, 1) := by decide +kernel
theorem dJ6_numberOfTrailingZeros_0f7a4_16 : decode cJ6_numberOfTrailingZeros_0f7a4 16 = .ok (.ireturn, 1) := by decide +kernel
theorem dJ6_numberOfTrailingZeros_0f7a4_17 : decode cJ6_numberOfTrailingZeros_0f7a4 17 = .ok (.iconst 1, 1) := by decide +kernel
theorem dJ6_numberOfTrailingZeros_0f7a4_18 : decode cJ6_numberOfTrailingZeros_0f7a4 18 = .ok (.istore_n 1, 1) := by decide +kernel
theorem dJ6_numberOfTrailingZeros_0f7a4_19 : decode cJ6_numberOfTrailingZeros_0f7a4 19 = .ok (.iload_n 0, 1) := by decide +kernel
theorem dJ6_numberOfTrailingZeros_0f7a4_20 : decode cJ6_numberOfTrailingZeros_0f7a4 20 = .ok (.ldc_w 264, 3) := by decide +kernel
theorem dJ6_numberOfTrailingZeros_0f7a4_23 : decode cJ6_numberOfTrailingZeros_0f7a4 23 = .ok (.if_icmp .le 11, 3) := by decide +kernel
theorem dJ6_numberOfTrailingZeros_0f7a4_34 : decode cJ6_numberOfTrailingZeros_0f7a4 34 = .ok (.iload_n 0, 1) := by decide +kernel
theorem dJ6_numberOfTrailingZeros_0f7a4_35 : decode cJ6_numberOfTrailingZeros_0f7a4 35 = .ok (.sipush 256, 3) := by decide +kernel
theorem dJ6_numberOfTrailingZeros_0f7a4_38 : decode cJ6_numberOfTrailingZeros_0f7a4 38 = .ok (.if_icmp .le 11, 3) := by decide +kernel
theorem dJ6_numberOfTrailingZeros_0f7a4_49 : decode cJ6_numberOfTrailingZeros_0f7a4 49 = .ok (.iload_n 0, 1) := by decide +kernel
theorem dJ6_numberOfTrailingZeros_0f7a4_50 : decode cJ6_numberOfTrailingZeros_0f7a4 50 = .ok (.bipush 16, 2) := by decide +kernel
theorem dJ6_numberOfTrailingZeros_0f7a4_52 : decode cJ6_numberOfTrailingZeros_0f7a4 52 = .ok (.if_icmp .le 10, 3) := by decide +kernel
theorem dJ6_numberOfTrailingZeros_0f7a4_62 : decode cJ6_numberOfTrailingZeros_0f7a4 62 = .ok (.iload_n 0, 1) := by decide +kernel
theorem dJ6_numberOfTrailingZeros_0f7a4_63 : decode cJ6_numberOfTrailingZeros_0f7a4 63 = .ok (.iconst 4, 1) := by decide +kernel
theorem dJ6_numberOfTrailingZeros_0f7a4_64 : decode cJ6_numberOfTrailingZeros_0f7a4 64 = .ok (.if_icmp .le 10, 3) := by decide +kernel
theorem dJ6_numberOfTrailingZeros_0f7a4_67 : decode cJ6_numberOfTrailingZeros_0f7a4 67 = .ok (.iinc 1 2, 3) := by decide +kernel
theorem dJ6_numberOfTrailingZeros_0f7a4_70 : decode cJ6_numberOfTrailingZeros_0f7a4 70 = .ok (.iload_n 0, 1) := by decide +kernel
theorem dJ6_numberOfTrailingZeros_0f7a4_71 : decode cJ6_numberOfTrailingZeros_0f7a4 71 = .ok (.iconst 2, 1) := by decide +kernel
theorem dJ6_numberOfTrailingZeros_0f7a4_72 : decode cJ6_numberOfTrailingZeros_0f7a4 72 = .ok (.iushr, 1) := by decide +kernel
theorem dJ6_numberOfTrailingZeros_0f7a4_73 : decode cJ6_numberOfTrailingZeros_0f7a4 73 = .ok (.istore_n 0, 1) := by decide +kernel
theorem dJ6_numberOfTrailingZeros_0f7a4_74 : decode cJ6_numberOfTrailingZeros_0f7a4 74 = .ok (.iload_n 1, 1) := by decide +kernel
theorem dJ6_numberOfTrailingZeros_0f7a4_75 : decode cJ6_numberOfTrailingZeros_0f7a4 75 = .ok (.iload_n 0, 1) := by decide +kernel
theorem dJ6_numberOfTrailingZeros_0f7a4_76 : decode cJ6_numberOfTrailingZeros_0f7a4 76 = .ok (.iconst 1, 1) := by decide +kernel
theorem dJ6_numberOfTrailingZeros_0f7a4_77 : decode cJ6_numberOfTrailingZeros_0f7a4 77 = .ok (.iushr, 1) := by decide +kernel
theorem dJ6_numberOfTrailingZeros_0f7a4_78 : decode cJ6_numberOfTrailingZeros_0f7a4 78 = .ok (.iadd, 1) := by decide +kernel
theorem dJ6_numberOfTrailingZeros_0f7a4_79 : decode cJ6_numberOfTrailingZeros_0f7a4 79 = .ok (.ireturn, 1) := by decide +kernel
theorem dX0_fewestToTell_0 : decode cX0_fewestToTell 0 = .ok (.aload_n 0, 1) := by decide +kernel
theorem dX0_fewestToTell_1 : decode cX0_fewestToTell 1 = .ok (.invokevirtual 152, 3) := by decide +kernel
theorem dX0_fewestToTell_4 : decode cX0_fewestToTell 4 = .ok (.istore_n 1, 1) := by decide +kernel
theorem dX0_fewestToTell_5 : decode cX0_fewestToTell 5 = .ok (.iconst 0, 1) := by decide +kernel
theorem dX0_fewestToTell_6 : decode cX0_fewestToTell 6 = .ok (.istore_n 2, 1) := by decide +kernel
theorem dX0_fewestToTell_7 : decode cX0_fewestToTell 7 = .ok (.iload_n 2, 1) := by decide +kernel
theorem dX0_fewestToTell_8 : decode cX0_fewestToTell 8 = .ok (.aload_n 0, 1) := by decide +kernel
theorem dX0_fewestToTell_9 : decode cX0_fewestToTell 9 = .ok (.invokevirtual 152, 3) := by decide +kernel
theorem dX0_fewestToTell_12 : decode cX0_fewestToTell 12 = .ok (.if_icmp .ge 40, 3) := by decide +kernel
theorem dX0_fewestToTell_15 : decode cX0_fewestToTell 15 = .ok (.iload_n 2, 1) := by decide +kernel
theorem dX0_fewestToTell_16 : decode cX0_fewestToTell 16 = .ok (.invokestatic 111, 3) := by decide +kernel
theorem dX0_fewestToTell_19 : decode cX0_fewestToTell 19 = .ok (.iload_n 1, 1) := by decide +kernel
theorem dX0_fewestToTell_20 : decode cX0_fewestToTell 20 = .ok (.invokestatic 111, 3) := by decide +kernel
theorem dX0_fewestToTell_23 : decode cX0_fewestToTell 23 = .ok (.if_icmp .ge 23, 3) := by decide +kernel
theorem dX0_fewestToTell_26 : decode cX0_fewestToTell 26 = .ok (.aload_n 0, 1) := by decide +kernel
theorem dX0_fewestToTell_27 : decode cX0_fewestToTell 27 = .ok (.iload_n 2, 1) := by decide +kernel
theorem dX0_fewestToTell_28 : decode cX0_fewestToTell 28 = .ok (.aload_n 0, 1) := by decide +kernel
theorem dX0_fewestToTell_29 : decode cX0_fewestToTell 29 = .ok (.getfield 53, 3) := by decide +kernel
theorem dX0_fewestToTell_32 : decode cX0_fewestToTell 32 = .ok (.iconst 1, 1) := by decide +kernel
theorem dX0_fewestToTell_33 : decode cX0_fewestToTell 33 = .ok (.isub, 1) := by decide +kernel
theorem dX0_fewestToTell_34 : decode cX0_fewestToTell 34 = .ok (.invokevirtual 155, 3) := by decide +kernel
theorem dX0_fewestToTell_37 : decode cX0_fewestToTell 37 = .ok (.aload_n 0, 1) := by decide +kernel
theorem dX0_fewestToTell_38 : decode cX0_fewestToTell 38 = .ok (.invokevirtual 152, 3) := by decide +kernel
theorem dX0_fewestToTell_41 : decode cX0_fewestToTell 41 = .ok (.if_icmp .ne 5, 3) := by decide +kernel
theorem dX0_fewestToTell_44 : decode cX0_fewestToTell 44 = .ok (.iload_n 2, 1) := by decide +kernel
theorem dX0_fewestToTell_45 : decode cX0_fewestToTell 45 = .ok (.istore_n 1, 1) := by decide +kernel
theorem dX0_fewestToTell_46 : decode cX0_fewestToTell 46 = .ok (.iinc 2 1, 3) := by decide +kernel
theorem dX0_fewestToTell_49 : decode cX0_fewestToTell 49 = .ok (.goto (-42), 3) := by decide +kernel
theorem dX0_fewestToTell_52 : decode cX0_fewestToTell 52 = .ok (.iload_n 1, 1) := by decide +kernel
theorem dX0_fewestToTell_53 : decode cX0_fewestToTell 53 = .ok (.ireturn, 1) := by decide +kernel
theorem dX0_likelihood_0 : decode cX0_likelihood 0 = .ok (.iconst 0, 1) := by decide +kernel
theorem dX0_likelihood_1 : decode cX0_likelihood 1 = .ok (.istore 5, 2) := by decide +kernel
theorem dX0_likelihood_3 : decode cX0_likelihood 3 = .ok (.iconst 0, 1) := by decide +kernel
theorem dX0_likelihood_4 : decode cX0_likelihood 4 = .ok (.istore 6, 2) := by decide +kernel
theorem dX0_likelihood_6 : decode cX0_likelihood 6 = .ok (.iload 6, 2) := by decide +kernel
theorem dX0_likelihood_8 : decode cX0_likelihood 8 = .ok (.aload_n 0, 1) := by decide +kernel
theorem dX0_likelihood_9 : decode cX0_likelihood 9 = .ok (.getfield 46, 3) := by decide +kernel
theorem dX0_likelihood_12 : decode cX0_likelihood 12 = .ok (.if_icmp .ge 31, 3) := by decide +kernel
theorem dX0_likelihood_15 : decode cX0_likelihood 15 = .ok (.iload_n 2, 1) := by decide +kernel
theorem dX0_likelihood_16 : decode cX0_likelihood 16 = .ok (.iload 6, 2) := by decide +kernel
theorem dX0_likelihood_18 : decode cX0_likelihood 18 = .ok (.ishr, 1) := by decide +kernel
theorem dX0_likelihood_19 : decode cX0_likelihood 19 = .ok (.iconst 1, 1) := by decide +kernel
theorem dX0_likelihood_20 : decode cX0_likelihood 20 = .ok (.iand, 1) := by decide +kernel
theorem dX0_likelihood_21 : decode cX0_likelihood 21 = .ok (.iconst 1, 1) := by decide +kernel
theorem dX0_likelihood_22 : decode cX0_likelihood 22 = .ok (.if_icmp .ne 15, 3) := by decide +kernel
theorem dX0_likelihood_25 : decode cX0_likelihood 25 = .ok (.iload 5, 2) := by decide +kernel
theorem dX0_likelihood_27 : decode cX0_likelihood 27 = .ok (.aload_n 0, 1) := by decide +kernel
theorem dX0_likelihood_28 : decode cX0_likelihood 28 = .ok (.iload_n 1, 1) := by decide +kernel
theorem dX0_likelihood_29 : decode cX0_likelihood 29 = .ok (.iload 6, 2) := by decide +kernel
theorem dX0_likelihood_31 : decode cX0_likelihood 31 = .ok (.invokevirtual 107, 3) := by decide +kernel
theorem dX0_likelihood_34 : decode cX0_likelihood 34 = .ok (.iadd, 1) := by decide +kernel
theorem dX0_likelihood_35 : decode cX0_likelihood 35 = .ok (.istore 5, 2) := by decide +kernel
theorem dX0_likelihood_37 : decode cX0_likelihood 37 = .ok (.iinc 6 1, 3) := by decide +kernel
theorem dX0_likelihood_40 : decode cX0_likelihood 40 = .ok (.goto (-34), 3) := by decide +kernel
theorem dX0_likelihood_43 : decode cX0_likelihood 43 = .ok (.iload 5, 2) := by decide +kernel
theorem dX0_likelihood_45 : decode cX0_likelihood 45 = .ok (.ifCond .le 12, 3) := by decide +kernel
theorem dX0_likelihood_48 : decode cX0_likelihood 48 = .ok (.aload_n 0, 1) := by decide +kernel
theorem dX0_likelihood_49 : decode cX0_likelihood 49 = .ok (.iload_n 1, 1) := by decide +kernel
theorem dX0_likelihood_50 : decode cX0_likelihood 50 = .ok (.iload_n 3, 1) := by decide +kernel
theorem dX0_likelihood_51 : decode cX0_likelihood 51 = .ok (.invokevirtual 107, 3) := by decide +kernel
theorem dX0_likelihood_54 : decode cX0_likelihood 54 = .ok (.goto 4, 3) := by decide +kernel
theorem dX0_likelihood_57 : decode cX0_likelihood 57 = .ok (.iconst 1, 1) := by decide +kernel
theorem dX0_likelihood_58 : decode cX0_likelihood 58 = .ok (.istore 6, 2) := by decide +kernel
theorem dX0_likelihood_60 : decode cX0_likelihood 60 = .ok (.iload 5, 2) := by decide +kernel
theorem dX0_likelihood_62 : decode cX0_likelihood 62 = .ok (.ifCond .le 8, 3) := by decide +kernel
theorem dX0_likelihood_65 : decode cX0_likelihood 65 = .ok (.iload 5, 2) := by decide +kernel
theorem dX0_likelihood_67 : decode cX0_likelihood 67 = .ok (.goto 7, 3) := by decide +kernel
theorem dX0_likelihood_70 : decode cX0_likelihood 70 = .ok (.iload_n 2, 1) := by decide +kernel
theorem dX0_likelihood_71 : decode cX0_likelihood 71 = .ok (.invokestatic 111, 3) := by decide +kernel
theorem dX0_likelihood_74 : decode cX0_likelihood 74 = .ok (.istore 7, 2) := by decide +kernel
theorem dX0_likelihood_76 : decode cX0_likelihood 76 = .ok (.iload_n 2, 1) := by decide +kernel
theorem dX0_likelihood_77 : decode cX0_likelihood 77 = .ok (.iload_n 3, 1) := by decide +kernel
theorem dX0_likelihood_78 : decode cX0_likelihood 78 = .ok (.ishr, 1) := by decide +kernel
theorem dX0_likelihood_79 : decode cX0_likelihood 79 = .ok (.iconst 1, 1) := by decide +kernel
theorem dX0_likelihood_80 : decode cX0_likelihood 80 = .ok (.iand, 1) := by decide +kernel
theorem dX0_likelihood_81 : decode cX0_likelihood 81 = .ok (.ifCond .eq 8, 3) := by decide +kernel
theorem dX0_likelihood_84 : decode cX0_likelihood 84 = .ok (.iload 6, 2) := by decide +kernel
theorem dX0_likelihood_86 : decode cX0_likelihood 86 = .ok (.ifCond .ne 6, 3) := by decide +kernel
theorem dX0_likelihood_89 : decode cX0_likelihood 89 = .ok (.iload 4, 2) := by decide +kernel
theorem dX0_likelihood_91 : decode cX0_likelihood 91 = .ok (.ireturn, 1) := by decide +kernel
theorem dX0_likelihood_92 : decode cX0_likelihood 92 = .ok (.iload 7, 2) := by decide +kernel
theorem dX0_likelihood_94 : decode cX0_likelihood 94 = .ok (.iload 6, 2) := by decide +kernel
theorem dX0_likelihood_96 : decode cX0_likelihood 96 = .ok (.invokestatic 117, 3) := by decide +kernel
theorem dX0_likelihood_99 : decode cX0_likelihood 99 = .ok (.istore 8, 2) := by decide +kernel
theorem dX0_likelihood_101 : decode cX0_likelihood 101 = .ok (.iload 8, 2) := by decide +kernel
theorem dX0_likelihood_103 : decode cX0_likelihood 103 = .ok (.iconst 1, 1) := by decide +kernel
theorem dX0_likelihood_104 : decode cX0_likelihood 104 = .ok (.if_icmp .ge 6, 3) := by decide +kernel
theorem dX0_likelihood_107 : decode cX0_likelihood 107 = .ok (.iload 4, 2) := by decide +kernel
theorem dX0_likelihood_109 : decode cX0_likelihood 109 = .ok (.ireturn, 1) := by decide +kernel
theorem dX0_likelihood_110 : decode cX0_likelihood 110 = .ok (.iload 4, 2) := by decide +kernel
theorem dX0_likelihood_112 : decode cX0_likelihood 112 = .ok (.ifCond .ne 11, 3) := by decide +kernel
theorem dX0_likelihood_115 : decode cX0_likelihood 115 = .ok (.iload 6, 2) := by decide +kernel
theorem dX0_likelihood_117 : decode cX0_likelihood 117 = .ok (.iload 8, 2) := by decide +kernel
theorem dX0_likelihood_119 : decode cX0_likelihood 119 = .ok (.idiv, 1) := by decide +kernel
theorem dX0_likelihood_120 : decode cX0_likelihood 120 = .ok (.goto 8, 3) := by decide +kernel
theorem dX0_likelihood_123 : decode cX0_likelihood 123 = .ok (.iload 7, 2) := by decide +kernel
theorem dX0_likelihood_125 : decode cX0_likelihood 125 = .ok (.iload 8, 2) := by decide +kernel
theorem dX0_likelihood_127 : decode cX0_likelihood 127 = .ok (.idiv, 1) := by decide +kernel
theorem dX0_likelihood_128 : decode cX0_likelihood 128 = .ok (.ireturn, 1) := by decide +kernel
theorem dX10_reckon_0 : decode cX10_reckon 0 = .ok (.aload_n 0, 1) := by decide +kernel
theorem dX10_reckon_1 : decode cX10_reckon 1 = .ok (.iconst 1, 1) := by decide +kernel
theorem dX10_reckon_2 : decode cX10_reckon 2 = .ok (.aload_n 1, 1) := by decide +kernel
theorem dX10_reckon_3 : decode cX10_reckon 3 = .ok (.getfield 82, 3) := by decide +kernel
theorem dX10_reckon_6 : decode cX10_reckon 6 = .ok (.ishl, 1) := by decide +kernel
theorem dX10_reckon_7 : decode cX10_reckon 7 = .ok (.iconst 1, 1) := by decide +kernel
theorem dX10_reckon_8 : decode cX10_reckon 8 = .ok (.isub, 1) := by decide +kernel
theorem dX10_reckon_9 : decode cX10_reckon 9 = .ok (.putfield 85, 3) := by decide +kernel
theorem dX10_reckon_12 : decode cX10_reckon 12 = .ok (.aload_n 0, 1) := by decide +kernel
theorem dX10_reckon_13 : decode cX10_reckon 13 = .ok (.iconst (-1), 1) := by decide +kernel
theorem dX10_reckon_14 : decode cX10_reckon 14 = .ok (.putfield 88, 3) := by decide +kernel
theorem dX10_reckon_17 : decode cX10_reckon 17 = .ok (.aload_n 0, 1) := by decide +kernel
theorem dX10_reckon_18 : decode cX10_reckon 18 = .ok (.iconst (-1), 1) := by decide +kernel
theorem dX10_reckon_19 : decode cX10_reckon 19 = .ok (.putfield 91, 3) := by decide +kernel
theorem dX10_reckon_22 : decode cX10_reckon 22 = .ok (.iconst 0, 1) := by decide +kernel
theorem dX10_reckon_23 : decode cX10_reckon 23 = .ok (.istore_n 3, 1) := by decide +kernel
theorem dX10_reckon_24 : decode cX10_reckon 24 = .ok (.iconst 0, 1) := by decide +kernel
theorem dX10_reckon_25 : decode cX10_reckon 25 = .ok (.istore 4, 2) := by decide +kernel
theorem dX10_reckon_27 : decode cX10_reckon 27 = .ok (.iload 4, 2) := by decide +kernel
theorem dX10_reckon_29 : decode cX10_reckon 29 = .ok (.aload_n 0, 1) := by decide +kernel
theorem dX10_reckon_30 : decode cX10_reckon 30 = .ok (.getfield 27, 3) := by decide +kernel
theorem dX10_reckon_33 : decode cX10_reckon 33 = .ok (.if_icmp .ge 101, 3) := by decide +kernel
theorem dX10_reckon_36 : decode cX10_reckon 36 = .ok (.aload_n 0, 1) := by decide +kernel
theorem dX10_reckon_37 : decode cX10_reckon 37 = .ok (.getfield 9, 3) := by decide +kernel
theorem dX10_reckon_40 : decode cX10_reckon 40 = .ok (.iload 4, 2) := by decide +kernel
theorem dX10_reckon_42 : decode cX10_reckon 42 = .ok (.iaload, 1) := by decide +kernel
theorem dX10_reckon_43 : decode cX10_reckon 43 = .ok (.bipush 8, 2) := by decide +kernel
theorem dX10_reckon_45 : decode cX10_reckon 45 = .ok (.if_icmp .eq 83, 3) := by decide +kernel
theorem dX10_reckon_48 : decode cX10_reckon 48 = .ok (.aload_n 0, 1) := by decide +kernel
theorem dX10_reckon_49 : decode cX10_reckon 49 = .ok (.aload_n 1, 1) := by decide +kernel
theorem dX10_reckon_50 : decode cX10_reckon 50 = .ok (.aload_n 0, 1) := by decide +kernel
theorem dX10_reckon_51 : decode cX10_reckon 51 = .ok (.getfield 85, 3) := by decide +kernel
theorem dX10_reckon_54 : decode cX10_reckon 54 = .ok (.iload_n 3, 1) := by decide +kernel
theorem dX10_reckon_55 : decode cX10_reckon 55 = .ok (.aload_n 0, 1) := by decide +kernel
theorem dX10_reckon_56 : decode cX10_reckon 56 = .ok (.getfield 9, 3) := by decide +kernel
theorem dX10_reckon_59 : decode cX10_reckon 59 = .ok (.iload 4, 2) := by decide +kernel
theorem dX10_reckon_61 : decode cX10_reckon 61 = .ok (.iaload, 1) := by decide +kernel
theorem dX10_reckon_62 : decode cX10_reckon 62 = .ok (.invokevirtual 94, 3) := by decide +kernel
theorem dX10_reckon_65 : decode cX10_reckon 65 = .ok (.putfield 85, 3) := by decide +kernel
theorem dX10_reckon_68 : decode cX10_reckon 68 = .ok (.iinc 3 1, 3) := by decide +kernel
theorem dX10_reckon_71 : decode cX10_reckon 71 = .ok (.iload_n 2, 1) := by decide +kernel
theorem dX10_reckon_72 : decode cX10_reckon 72 = .ok (.ifCond .le 23, 3) := by decide +kernel
theorem dX10_reckon_75 : decode cX10_reckon 75 = .ok (.iload_n 3, 1) := by decide +kernel
theorem dX10_reckon_76 : decode cX10_reckon 76 = .ok (.iload_n 2, 1) := by decide +kernel
theorem dX10_reckon_77 : decode cX10_reckon 77 = .ok (.if_icmp .lt 18, 3) := by decide +kernel
theorem dX10_reckon_80 : decode cX10_reckon 80 = .ok (.aload_n 0, 1) := by decide +kernel
theorem dX10_reckon_81 : decode cX10_reckon 81 = .ok (.getfield 85, 3) := by decide +kernel
theorem dX10_reckon_84 : decode cX10_reckon 84 = .ok (.invokestatic 97, 3) := by decide +kernel
theorem dX10_reckon_87 : decode cX10_reckon 87 = .ok (.iconst 1, 1) := by decide +kernel
theorem dX10_reckon_88 : decode cX10_reckon 88 = .ok (.if_icmp .ne 7, 3) := by decide +kernel
theorem dX10_reckon_91 : decode cX10_reckon 91 = .ok (.iconst 1, 1) := by decide +kernel
theorem dX10_reckon_92 : decode cX10_reckon 92 = .ok (.goto 4, 3) := by decide +kernel
theorem dX10_reckon_95 : decode cX10_reckon 95 = .ok (.iconst 0, 1) := by decide +kernel
theorem dX10_reckon_96 : decode cX10_reckon 96 = .ok (.istore 5, 2) := by decide +kernel
theorem dX10_reckon_98 : decode cX10_reckon 98 = .ok (.iload 5, 2) := by decide +kernel
theorem dX10_reckon_100 : decode cX10_reckon 100 = .ok (.ifCond .eq 28, 3) := by decide +kernel
theorem dX10_reckon_103 : decode cX10_reckon 103 = .ok (.aload_n 0, 1) := by decide +kernel
theorem dX10_reckon_104 : decode cX10_reckon 104 = .ok (.getfield 88, 3) := by decide +kernel
theorem dX10_reckon_107 : decode cX10_reckon 107 = .ok (.iconst (-1), 1) := by decide +kernel
theorem dX10_reckon_108 : decode cX10_reckon 108 = .ok (.if_icmp .ne 20, 3) := by decide +kernel
theorem dX10_reckon_111 : decode cX10_reckon 111 = .ok (.aload_n 0, 1) := by decide +kernel
theorem dX10_reckon_112 : decode cX10_reckon 112 = .ok (.iload 4, 2) := by decide +kernel
theorem dX10_reckon_114 : decode cX10_reckon 114 = .ok (.putfield 88, 3) := by decide +kernel
theorem dX10_reckon_117 : decode cX10_reckon 117 = .ok (.aload_n 0, 1) := by decide +kernel
theorem dX10_reckon_118 : decode cX10_reckon 118 = .ok (.aload_n 0, 1) := by decide +kernel
theorem dX10_reckon_119 : decode cX10_reckon 119 = .ok (.getfield 85, 3) := by decide +kernel
theorem dX10_reckon_122 : decode cX10_reckon 122 = .ok (.invokestatic 102, 3) := by decide +kernel
theorem dX10_reckon_125 : decode cX10_reckon 125 = .ok (.putfield 91, 3) := by decide +kernel
theorem dX10_reckon_128 : decode cX10_reckon 128 = .ok (.iinc 4 1, 3) := by decide +kernel
theorem dX10_reckon_131 : decode cX10_reckon 131 = .ok (.goto (-104), 3) := by decide +kernel
theorem dX10_reckon_134 : decode cX10_reckon 134 = .ok (.return_, 1) := by decide +kernel
theorem dX10_take_0 : decode cX10_take 0 = .ok (.aload_n 0, 1) := by decide +kernel
theorem dX10_take_1 : decode cX10_take 1 = .ok (.iconst 0, 1) := by decide +kernel
theorem dX10_take_2 : decode cX10_take 2 = .ok (.putfield 27, 3) := by decide +kernel
theorem dX10_take_5 : decode cX10_take 5 = .ok (.aload_n 1, 1) := by decide +kernel
theorem dX10_take_6 : decode cX10_take 6 = .ok (.getfield 31, 3) := by decide +kernel
theorem dX10_take_9 : decode cX10_take 9 = .ok (.aload_n 2, 1) := by decide +kernel
theorem dX10_take_10 : decode cX10_take 10 = .ok (.getfield 34, 3) := by decide +kernel
theorem dX10_take_13 : decode cX10_take 13 = .ok (.if_icmp .le 5, 3) := by decide +kernel
theorem dX10_take_16 : decode cX10_take 16 = .ok (.iconst 0, 1) := by decide +kernel
theorem dX10_take_17 : decode cX10_take 17 = .ok (.ireturn, 1) := by decide +kernel
theorem dX10_take_18 : decode cX10_take 18 = .ok (.iconst 0, 1) := by decide +kernel
theorem dX10_take_19 : decode cX10_take 19 = .ok (.istore_n 3, 1) := by decide +kernel
theorem dX10_take_20 : decode cX10_take 20 = .ok (.iload_n 3, 1) := by decide +kernel
theorem dX10_take_21 : decode cX10_take 21 = .ok (.aload_n 1, 1) := by decide +kernel
theorem dX10_take_22 : decode cX10_take 22 = .ok (.getfield 31, 3) := by decide +kernel
theorem dX10_take_25 : decode cX10_take 25 = .ok (.if_icmp .ge 61, 3) := by decide +kernel
theorem dX10_take_28 : decode cX10_take 28 = .ok (.iload_n 3, 1) := by decide +kernel
theorem dX10_take_29 : decode cX10_take 29 = .ok (.bipush 10, 2) := by decide +kernel
theorem dX10_take_31 : decode cX10_take 31 = .ok (.if_icmp .ge 55, 3) := by decide +kernel
theorem dX10_take_34 : decode cX10_take 34 = .ok (.aload_n 1, 1) := by decide +kernel
theorem dX10_take_35 : decode cX10_take 35 = .ok (.getfield 39, 3) := by decide +kernel
theorem dX10_take_38 : decode cX10_take 38 = .ok (.iload_n 3, 1) := by decide +kernel
theorem dX10_take_39 : decode cX10_take 39 = .ok (.laload, 1) := by decide +kernel
theorem dX10_take_40 : decode cX10_take 40 = .ok (.lstore 4, 2) := by decide +kernel
theorem dX10_take_42 : decode cX10_take 42 = .ok (.lload 4, 2) := by decide +kernel
theorem dX10_take_44 : decode cX10_take 44 = .ok (.ldc2_w 43, 3) := by decide +kernel
theorem dX10_take_47 : decode cX10_take 47 = .ok (.lcmp, 1) := by decide +kernel
theorem dX10_take_48 : decode cX10_take 48 = .ok (.ifCond .eq 23, 3) := by decide +kernel
theorem dX10_take_51 : decode cX10_take 51 = .ok (.lload 4, 2) := by decide +kernel
theorem dX10_take_53 : decode cX10_take 53 = .ok (.lconst 0, 1) := by decide +kernel
theorem dX10_take_54 : decode cX10_take 54 = .ok (.lcmp, 1) := by decide +kernel
theorem dX10_take_55 : decode cX10_take 55 = .ok (.ifCond .lt 14, 3) := by decide +kernel
theorem dX10_take_58 : decode cX10_take 58 = .ok (.lload 4, 2) := by decide +kernel
theorem dX10_take_60 : decode cX10_take 60 = .ok (.aload_n 2, 1) := by decide +kernel
theorem dX10_take_61 : decode cX10_take 61 = .ok (.getfield 45, 3) := by decide +kernel
theorem dX10_take_64 : decode cX10_take 64 = .ok (.i2l, 1) := by decide +kernel
theorem dX10_take_65 : decode cX10_take 65 = .ok (.lcmp, 1) := by decide +kernel
theorem dX10_take_66 : decode cX10_take 66 = .ok (.ifCond .lt 5, 3) := by decide +kernel
theorem dX10_take_69 : decode cX10_take 69 = .ok (.iconst 0, 1) := by decide +kernel
theorem dX10_take_70 : decode cX10_take 70 = .ok (.ireturn, 1) := by decide +kernel
theorem dX10_take_71 : decode cX10_take 71 = .ok (.aload_n 0, 1) := by decide +kernel
theorem dX10_take_72 : decode cX10_take 72 = .ok (.getfield 9, 3) := by decide +kernel
theorem dX10_take_75 : decode cX10_take 75 = .ok (.iload_n 3, 1) := by decide +kernel
theorem dX10_take_76 : decode cX10_take 76 = .ok (.lload 4, 2) := by decide +kernel
theorem dX10_take_78 : decode cX10_take 78 = .ok (.l2i, 1) := by decide +kernel
theorem dX10_take_79 : decode cX10_take 79 = .ok (.iastore, 1) := by decide +kernel
theorem dX10_take_80 : decode cX10_take 80 = .ok (.iinc 3 1, 3) := by decide +kernel
theorem dX10_take_83 : decode cX10_take 83 = .ok (.goto (-63), 3) := by decide +kernel
theorem dX10_take_86 : decode cX10_take 86 = .ok (.aload_n 0, 1) := by decide +kernel
theorem dX10_take_87 : decode cX10_take 87 = .ok (.aload_n 1, 1) := by decide +kernel
theorem dX10_take_88 : decode cX10_take 88 = .ok (.getfield 31, 3) := by decide +kernel
theorem dX10_take_91 : decode cX10_take 91 = .ok (.putfield 27, 3) := by decide +kernel
theorem dX10_take_94 : decode cX10_take 94 = .ok (.iconst 1, 1) := by decide +kernel
theorem dX10_take_95 : decode cX10_take 95 = .ok (.ireturn, 1) := by decide +kernel
