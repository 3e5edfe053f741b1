theorem tin_1 : ∀ w ∈ tables_1_1, w ∈ lw_tbl := fun w h => List.mem_append_right (k2_sels lw_privs) (show w ∈ tables_1 from List.mem_append_left _ h)
theorem tin_2 : ∀ w ∈ tables_1_2, w ∈ lw_tbl := fun w h => List.mem_append_right (k2_sels lw_privs) (show w ∈ tables_1 from List.mem_append_right _ (List.mem_append_left _ h))
theorem tin_3 : ∀ w ∈ tables_1_3, w ∈ lw_tbl := fun w h => List.mem_append_right (k2_sels lw_privs) (show w ∈ tables_1 from List.mem_append_right _ (List.mem_append_right _ (List.mem_append_left _ h)))
theorem tin_4 : ∀ w ∈ tables_1_4, w ∈ lw_tbl := fun w h => List.mem_append_right (k2_sels lw_privs) (show w ∈ tables_1 from List.mem_append_right _ (List.mem_append_right _ (List.mem_append_right _ (List.mem_append_left _ h))))
theorem tin_5 : ∀ w ∈ tables_1_5, w ∈ lw_tbl := fun w h => List.mem_append_right (k2_sels lw_privs) (show w ∈ tables_1 from List.mem_append_right _ (List.mem_append_right _ (List.mem_append_right _ (List.mem_append_right _ (List.mem_append_left _ h)))))
theorem tin_6 : ∀ w ∈ tables_1_6, w ∈ lw_tbl := fun w h => List.mem_append_right (k2_sels lw_privs) (show w ∈ tables_1 from List.mem_append_right _ (List.mem_append_right _ (List.mem_append_right _ (List.mem_append_right _ (List.mem_append_right _ (List.mem_append_left _ h))))))
theorem tin_7 : ∀ w ∈ tables_1_7, w ∈ lw_tbl := fun w h => List.mem_append_right (k2_sels lw_privs) (show w ∈ tables_1 from List.mem_append_right _ (List.mem_append_right _ (List.mem_append_right _ (List.mem_append_right _ (List.mem_append_right _ (List.mem_append_right _ (List.mem_append_left _ h)))))))
theorem tin_8 : ∀ w ∈ tables_1_8, w ∈ lw_tbl := fun w h => List.mem_append_right (k2_sels lw_privs) (show w ∈ tables_1 from List.mem_append_right _ (List.mem_append_right _ (List.mem_append_right _ (List.mem_append_right _ (List.mem_append_right _ (List.mem_append_right _ (List.mem_append_right _ (List.mem_append_left _ h))))))))
theorem tin_9 : ∀ w ∈ tables_1_9, w ∈ lw_tbl := fun w h => List.mem_append_right (k2_sels lw_privs) (show w ∈ tables_1 from List.mem_append_right _ (List.mem_append_right _ (List.mem_append_right _ (List.mem_append_right _ (List.mem_append_right _ (List.mem_append_right _ (List.mem_append_right _ (List.mem_append_right _ (h)))))))))
theorem sin_1 : ∀ w ∈ k2_sels lw_privs_1, w ∈ lw_tbl := fun w hw => List.mem_append_left tables_1 (show w ∈ k2_sels lw_privs from by
  obtain ⟨q, h, hq⟩ := List.mem_map.mp hw
  exact List.mem_map.mpr ⟨q, (show q ∈ lw_privs from List.mem_append_left _ h), hq⟩)
theorem sin_2 : ∀ w ∈ k2_sels lw_privs_2, w ∈ lw_tbl := fun w hw => List.mem_append_left tables_1 (show w ∈ k2_sels lw_privs from by
  obtain ⟨q, h, hq⟩ := List.mem_map.mp hw
  exact List.mem_map.mpr ⟨q, (show q ∈ lw_privs from List.mem_append_right _ (List.mem_append_left _ h)), hq⟩)
theorem sin_3 : ∀ w ∈ k2_sels lw_privs_3, w ∈ lw_tbl := fun w hw => List.mem_append_left tables_1 (show w ∈ k2_sels lw_privs from by
  obtain ⟨q, h, hq⟩ := List.mem_map.mp hw
  exact List.mem_map.mpr ⟨q, (show q ∈ lw_privs from List.mem_append_right _ (List.mem_append_right _ (List.mem_append_left _ h))), hq⟩)
theorem sin_4 : ∀ w ∈ k2_sels lw_privs_4, w ∈ lw_tbl := fun w hw => List.mem_append_left tables_1 (show w ∈ k2_sels lw_privs from by
  obtain ⟨q, h, hq⟩ := List.mem_map.mp hw
  exact List.mem_map.mpr ⟨q, (show q ∈ lw_privs from List.mem_append_right _ (List.mem_append_right _ (List.mem_append_right _ (List.mem_append_left _ h)))), hq⟩)
theorem sin_5 : ∀ w ∈ k2_sels lw_privs_5, w ∈ lw_tbl := fun w hw => List.mem_append_left tables_1 (show w ∈ k2_sels lw_privs from by
  obtain ⟨q, h, hq⟩ := List.mem_map.mp hw
  exact List.mem_map.mpr ⟨q, (show q ∈ lw_privs from List.mem_append_right _ (List.mem_append_right _ (List.mem_append_right _ (List.mem_append_right _ (List.mem_append_left _ h))))), hq⟩)
theorem sin_6 : ∀ w ∈ k2_sels lw_privs_6, w ∈ lw_tbl := fun w hw => List.mem_append_left tables_1 (show w ∈ k2_sels lw_privs from by
  obtain ⟨q, h, hq⟩ := List.mem_map.mp hw
  exact List.mem_map.mpr ⟨q, (show q ∈ lw_privs from List.mem_append_right _ (List.mem_append_right _ (List.mem_append_right _ (List.mem_append_right _ (List.mem_append_right _ (List.mem_append_left _ h)))))), hq⟩)
theorem sin_7 : ∀ w ∈ k2_sels lw_privs_7, w ∈ lw_tbl := fun w hw => List.mem_append_left tables_1 (show w ∈ k2_sels lw_privs from by
  obtain ⟨q, h, hq⟩ := List.mem_map.mp hw
  exact List.mem_map.mpr ⟨q, (show q ∈ lw_privs from List.mem_append_right _ (List.mem_append_right _ (List.mem_append_right _ (List.mem_append_right _ (List.mem_append_right _ (List.mem_append_right _ (List.mem_append_left _ h))))))), hq⟩)
theorem sin_8 : ∀ w ∈ k2_sels lw_privs_8, w ∈ lw_tbl := fun w hw => List.mem_append_left tables_1 (show w ∈ k2_sels lw_privs from by
  obtain ⟨q, h, hq⟩ := List.mem_map.mp hw
  exact List.mem_map.mpr ⟨q, (show q ∈ lw_privs from List.mem_append_right _ (List.mem_append_right _ (List.mem_append_right _ (List.mem_append_right _ (List.mem_append_right _ (List.mem_append_right _ (List.mem_append_right _ (List.mem_append_left _ h)))))))), hq⟩)
theorem sin_9 : ∀ w ∈ k2_sels lw_privs_9, w ∈ lw_tbl := fun w hw => List.mem_append_left tables_1 (show w ∈ k2_sels lw_privs from by
  obtain ⟨q, h, hq⟩ := List.mem_map.mp hw
  exact List.mem_map.mpr ⟨q, (show q ∈ lw_privs from List.mem_append_right _ (List.mem_append_right _ (List.mem_append_right _ (List.mem_append_right _ (List.mem_append_right _ (List.mem_append_right _ (List.mem_append_right _ (List.mem_append_right _ (List.mem_append_left _ h))))))))), hq⟩)
theorem sin_10 : ∀ w ∈ k2_sels lw_privs_10, w ∈ lw_tbl := fun w hw => List.mem_append_left tables_1 (show w ∈ k2_sels lw_privs from by
  obtain ⟨q, h, hq⟩ := List.mem_map.mp hw
  exact List.mem_map.mpr ⟨q, (show q ∈ lw_privs from List.mem_append_right _ (List.mem_append_right _ (List.mem_append_right _ (List.mem_append_right _ (List.mem_append_right _ (List.mem_append_right _ (List.mem_append_right _ (List.mem_append_right _ (List.mem_append_right _ (List.mem_append_left _ h)))))))))), hq⟩)
theorem sin_11 : ∀ w ∈ k2_sels lw_privs_11, w ∈ lw_tbl := fun w hw => List.mem_append_left tables_1 (show w ∈ k2_sels lw_privs from by
  obtain ⟨q, h, hq⟩ := List.mem_map.mp hw
  exact List.mem_map.mpr ⟨q, (show q ∈ lw_privs from List.mem_append_right _ (List.mem_append_right _ (List.mem_append_right _ (List.mem_append_right _ (List.mem_append_right _ (List.mem_append_right _ (List.mem_append_right _ (List.mem_append_right _ (List.mem_append_right _ (List.mem_append_right _ (h))))))))))), hq⟩)
theorem b_0 : Cond.fieldLink RX0 62 "GentleLetters$Desk" "lines" "I" ∈ BIG := bi (tin_1 _ (List.mem_of_getElem? (i := 116) rfl)) rfl
theorem b_1 : Cond.fieldLink RX0 46 "GentleLetters$Desk" "states" "I" ∈ BIG := bi (tin_1 _ (List.mem_of_getElem? (i := 97) rfl)) rfl
theorem b_2 : Cond.fieldLink RX0 65 "GentleLetters$Desk" "hearers" "I" ∈ BIG := bi (tin_1 _ (List.mem_of_getElem? (i := 119) rfl)) rfl
theorem b_3 : Cond.fieldLink RX0 50 "GentleLetters$Desk" "really" "I" ∈ BIG := bi (tin_1 _ (List.mem_of_getElem? (i := 100) rfl)) rfl
theorem b_4 : Cond.fieldLink RX0 53 "GentleLetters$Desk" "days" "I" ∈ BIG := bi (tin_1 _ (List.mem_of_getElem? (i := 105) rfl)) rfl
theorem b_5 : Cond.fieldLink RX0 68 "GentleLetters$Desk" "words" "I" ∈ BIG := bi (tin_1 _ (List.mem_of_getElem? (i := 122) rfl)) rfl
theorem b_6 : Cond.fieldLink RX0 71 "GentleLetters$Desk" "plans" "I" ∈ BIG := bi (tin_1 _ (List.mem_of_getElem? (i := 129) rfl)) rfl
theorem b_7 : Cond.fieldLink RX0 74 "GentleLetters$Desk" "news" "I" ∈ BIG := bi (tin_1 _ (List.mem_of_getElem? (i := 133) rfl)) rfl
theorem b_8 : Cond.methodLink RX0 96 yX0_hasWord ∈ BIG := bi (tin_3 _ (List.mem_of_getElem? (i := 234) rfl)) rfl
theorem b_9 : Cond.methodLink RX0 100 yX0_everything ∈ BIG := bi (tin_3 _ (List.mem_of_getElem? (i := 200) rfl)) rfl
theorem b_10 : Cond.fieldLink RX0 15 "GentleLetters$Desk" "thoughts" "[I" ∈ BIG := bi (tin_1 _ (List.mem_of_getElem? (i := 140) rfl)) rfl
theorem b_11 : Cond.fieldLink RX0 27 "GentleLetters$Desk" "meanings" "[I" ∈ BIG := bi (tin_1 _ (List.mem_of_getElem? (i := 151) rfl)) rfl
theorem b_12 : Cond.methodLink RX0 104 yX0_isTrue ∈ BIG := bi (tin_4 _ (List.mem_of_getElem? (i := 112) rfl)) rfl
theorem b_13 : Cond.fieldLink RX0 24 "GentleLetters$Desk" "shames" "[I" ∈ BIG := bi (tin_1 _ (List.mem_of_getElem? (i := 148) rfl)) rfl
theorem b_14 : Cond.fieldLink RX0 30 "GentleLetters$Desk" "planSizes" "[I" ∈ BIG := bi (tin_1 _ (List.mem_of_getElem? (i := 155) rfl)) rfl
theorem b_15 : Cond.fieldLink RX0 33 "GentleLetters$Desk" "planWords" "[I" ∈ BIG := bi (tin_1 _ (List.mem_of_getElem? (i := 157) rfl)) rfl
theorem b_16 : Cond.methodLink RX0 107 yX0_thoughtOf ∈ BIG := bi (tin_3 _ (List.mem_of_getElem? (i := 208) rfl)) rfl
theorem b_17 : Cond.fieldLink RX0 9 "GentleLetters$Desk" "grades" "[I" ∈ BIG := bi (tin_1 _ (List.mem_of_getElem? (i := 137) rfl)) rfl
theorem b_18 : Cond.code yX0_everything cX0_everything 1 (some .int) ∈ BIG := bi (tin_3 _ (List.mem_of_getElem? (i := 203) rfl)) rfl
theorem b_19 : Cond.instanceMethod yX0_everything ∈ BIG := bi (tin_3 _ (List.mem_of_getElem? (i := 202) rfl)) rfl
theorem b_20 : Cond.selects RX0 yX0_everything yX0_everything ∈ BIG := bi (sin_2 _ (List.mem_map.mpr ⟨(yX0_everything, 20), List.mem_of_getElem? (i := 15) rfl, rfl⟩)) rfl
theorem b_21 : Cond.initialized RX0 ∈ BIG := bi (tin_1 _ (List.mem_of_getElem? (i := 4) rfl)) rfl
theorem b_22 : Cond.code yX0_hasWord cX0_hasWord 2 (some .boolean) ∈ BIG := bi (tin_3 _ (List.mem_of_getElem? (i := 163) rfl)) rfl
theorem b_23 : Cond.instanceMethod yX0_hasWord ∈ BIG := bi (tin_3 _ (List.mem_of_getElem? (i := 162) rfl)) rfl
theorem b_24 : Cond.selects RX0 yX0_hasWord yX0_hasWord ∈ BIG := bi (sin_2 _ (List.mem_map.mpr ⟨(yX0_hasWord, 20), List.mem_of_getElem? (i := 9) rfl, rfl⟩)) rfl
theorem b_25 : Cond.code yX0_isTrue cX0_isTrue 2 (some .boolean) ∈ BIG := bi (tin_3 _ (List.mem_of_getElem? (i := 167) rfl)) rfl
theorem b_26 : Cond.instanceMethod yX0_isTrue ∈ BIG := bi (tin_3 _ (List.mem_of_getElem? (i := 166) rfl)) rfl
theorem b_27 : Cond.selects RX0 yX0_isTrue yX0_isTrue ∈ BIG := bi (sin_2 _ (List.mem_map.mpr ⟨(yX0_isTrue, 20), List.mem_of_getElem? (i := 10) rfl, rfl⟩)) rfl
theorem b_28 : Cond.code yX0_thoughtOf cX0_thoughtOf 3 (some .int) ∈ BIG := bi (tin_3 _ (List.mem_of_getElem? (i := 155) rfl)) rfl
theorem b_29 : Cond.instanceMethod yX0_thoughtOf ∈ BIG := bi (tin_3 _ (List.mem_of_getElem? (i := 154) rfl)) rfl
theorem b_30 : Cond.selects RX0 yX0_thoughtOf yX0_thoughtOf ∈ BIG := bi (sin_2 _ (List.mem_map.mpr ⟨(yX0_thoughtOf, 20), List.mem_of_getElem? (i := 8) rfl, rfl⟩)) rfl
theorem b_31 : Cond.lays RX0 RX0 "states" "I" ∈ BIG := bi (tin_1 _ (List.mem_of_getElem? (i := 165) rfl)) rfl
theorem b_32 : Cond.lays RX0 RX0 "really" "I" ∈ BIG := bi (tin_1 _ (List.mem_of_getElem? (i := 167) rfl)) rfl
theorem b_33 : Cond.lays RX0 RX0 "days" "I" ∈ BIG := bi (tin_1 _ (List.mem_of_getElem? (i := 169) rfl)) rfl
theorem b_34 : Cond.lays RX0 RX0 "heal" "I" ∈ BIG := bi (tin_1 _ (List.mem_of_getElem? (i := 171) rfl)) rfl
theorem b_35 : Cond.lays RX0 RX0 "leak" "I" ∈ BIG := bi (tin_1 _ (List.mem_of_getElem? (i := 173) rfl)) rfl
theorem b_36 : Cond.lays RX0 RX0 "lines" "I" ∈ BIG := bi (tin_1 _ (List.mem_of_getElem? (i := 175) rfl)) rfl
theorem b_37 : Cond.lays RX0 RX0 "hearers" "I" ∈ BIG := bi (tin_1 _ (List.mem_of_getElem? (i := 177) rfl)) rfl
theorem b_38 : Cond.lays RX0 RX0 "words" "I" ∈ BIG := bi (tin_1 _ (List.mem_of_getElem? (i := 179) rfl)) rfl
theorem b_39 : Cond.lays RX0 RX0 "plans" "I" ∈ BIG := bi (tin_1 _ (List.mem_of_getElem? (i := 181) rfl)) rfl
theorem b_40 : Cond.lays RX0 RX0 "news" "I" ∈ BIG := bi (tin_1 _ (List.mem_of_getElem? (i := 183) rfl)) rfl
theorem b_41 : Cond.laysFinal RX0 RX0 "grades" "[I" ∈ BIG := bi (tin_1 _ (List.mem_of_getElem? (i := 185) rfl)) rfl
theorem b_42 : Cond.laysFinal RX0 RX0 "thoughts" "[I" ∈ BIG := bi (tin_1 _ (List.mem_of_getElem? (i := 187) rfl)) rfl
theorem b_43 : Cond.laysFinal RX0 RX0 "reckonings" "[I" ∈ BIG := bi (tin_1 _ (List.mem_of_getElem? (i := 189) rfl)) rfl
theorem b_44 : Cond.laysFinal RX0 RX0 "told" "[I" ∈ BIG := bi (tin_1 _ (List.mem_of_getElem? (i := 191) rfl)) rfl
theorem b_45 : Cond.laysFinal RX0 RX0 "shames" "[I" ∈ BIG := bi (tin_1 _ (List.mem_of_getElem? (i := 193) rfl)) rfl
theorem b_46 : Cond.laysFinal RX0 RX0 "meanings" "[I" ∈ BIG := bi (tin_1 _ (List.mem_of_getElem? (i := 195) rfl)) rfl
theorem b_47 : Cond.laysFinal RX0 RX0 "planSizes" "[I" ∈ BIG := bi (tin_1 _ (List.mem_of_getElem? (i := 197) rfl)) rfl
theorem b_48 : Cond.laysFinal RX0 RX0 "planWords" "[I" ∈ BIG := bi (tin_1 _ (List.mem_of_getElem? (i := 199) rfl)) rfl
theorem b_49 : Cond.laysFinal RX0 RX0 "tidings" "[I" ∈ BIG := bi (tin_1 _ (List.mem_of_getElem? (i := 201) rfl)) rfl
theorem b_50 : Cond.laysFinal RX0 RX0 "log" "LGentleLetters$Log;" ∈ BIG := bi (tin_1 _ (List.mem_of_getElem? (i := 203) rfl)) rfl
theorem m_yX0_everything : MV yX0_everything cX0_everything 1 (some .int) 0 := ⟨b_18, b_19, b_20, b_21, by decide +kernel⟩
theorem m_yX0_hasWord : MV yX0_hasWord cX0_hasWord 2 (some .boolean) 1 := ⟨b_22, b_23, b_24, b_21, by decide +kernel⟩
theorem m_yX0_isTrue : MV yX0_isTrue cX0_isTrue 2 (some .boolean) 1 := ⟨b_25, b_26, b_27, b_21, by decide +kernel⟩
theorem m_yX0_thoughtOf : MV yX0_thoughtOf cX0_thoughtOf 3 (some .int) 2 := ⟨b_28, b_29, b_30, b_21, by decide +kernel⟩
theorem i_X0 : ∀ w ∈ u_ws RX0 TX0 20, w ∈ BIG := fun w hw => by
  obtain ⟨k, hk, rfl⟩ := List.mem_map.mp hw
  have hk := List.mem_range.mp hk
  match k, hk with
  | 0, _ => exact b_31
  | 1, _ => exact b_32
  | 2, _ => exact b_33
  | 3, _ => exact b_34
  | 4, _ => exact b_35
  | 5, _ => exact b_36
  | 6, _ => exact b_37
  | 7, _ => exact b_38
  | 8, _ => exact b_39
  | 9, _ => exact b_40
  | 10, _ => exact b_41
  | 11, _ => exact b_42
  | 12, _ => exact b_43
  | 13, _ => exact b_44
  | 14, _ => exact b_45
  | 15, _ => exact b_46
  | 16, _ => exact b_47
  | 17, _ => exact b_48
  | 18, _ => exact b_49
  | 19, _ => exact b_50
  | k + 20, hk => exact absurd hk (by omega)
theorem dX0_canTell_0 : decode cX0_canTell 0 = .ok (.aload_n 0, 1) := by decide +kernel
theorem dX0_canTell_1 : decode cX0_canTell 1 = .ok (.iload_n 1, 1) := by decide +kernel
theorem dX0_canTell_2 : decode cX0_canTell 2 = .ok (.invokevirtual 96, 3) := by decide +kernel
theorem dX0_canTell_5 : decode cX0_canTell 5 = .ok (.ifCond .ne 9, 3) := by decide +kernel
theorem dX0_canTell_8 : decode cX0_canTell 8 = .ok (.iload_n 1, 1) := by decide +kernel
theorem dX0_canTell_9 : decode cX0_canTell 9 = .ok (.bipush 8, 2) := by decide +kernel
theorem dX0_canTell_11 : decode cX0_canTell 11 = .ok (.if_icmp .ne 7, 3) := by decide +kernel
theorem dX0_canTell_14 : decode cX0_canTell 14 = .ok (.iconst 1, 1) := by decide +kernel
theorem dX0_canTell_15 : decode cX0_canTell 15 = .ok (.goto 4, 3) := by decide +kernel
theorem dX0_canTell_18 : decode cX0_canTell 18 = .ok (.iconst 0, 1) := by decide +kernel
theorem dX0_canTell_19 : decode cX0_canTell 19 = .ok (.ireturn, 1) := by decide +kernel
theorem dX0_commonDivisor_0 : decode cX0_commonDivisor 0 = .ok (.iload_n 0, 1) := by decide +kernel
theorem dX0_commonDivisor_1 : decode cX0_commonDivisor 1 = .ok (.istore_n 2, 1) := by decide +kernel
theorem dX0_commonDivisor_2 : decode cX0_commonDivisor 2 = .ok (.iload_n 1, 1) := by decide +kernel
theorem dX0_commonDivisor_3 : decode cX0_commonDivisor 3 = .ok (.istore_n 3, 1) := by decide +kernel
theorem dX0_commonDivisor_4 : decode cX0_commonDivisor 4 = .ok (.iconst 0, 1) := by decide +kernel
theorem dX0_commonDivisor_5 : decode cX0_commonDivisor 5 = .ok (.istore 4, 2) := by decide +kernel
theorem dX0_commonDivisor_7 : decode cX0_commonDivisor 7 = .ok (.iload 4, 2) := by decide +kernel
theorem dX0_commonDivisor_9 : decode cX0_commonDivisor 9 = .ok (.bipush 64, 2) := by decide +kernel
theorem dX0_commonDivisor_11 : decode cX0_commonDivisor 11 = .ok (.if_icmp .ge 23, 3) := by decide +kernel
theorem dX0_commonDivisor_14 : decode cX0_commonDivisor 14 = .ok (.iload_n 3, 1) := by decide +kernel
theorem dX0_commonDivisor_15 : decode cX0_commonDivisor 15 = .ok (.ifCond .le 19, 3) := by decide +kernel
theorem dX0_commonDivisor_18 : decode cX0_commonDivisor 18 = .ok (.iload_n 2, 1) := by decide +kernel
theorem dX0_commonDivisor_19 : decode cX0_commonDivisor 19 = .ok (.iload_n 3, 1) := by decide +kernel
theorem dX0_commonDivisor_20 : decode cX0_commonDivisor 20 = .ok (.irem, 1) := by decide +kernel
theorem dX0_commonDivisor_21 : decode cX0_commonDivisor 21 = .ok (.istore 5, 2) := by decide +kernel
theorem dX0_commonDivisor_23 : decode cX0_commonDivisor 23 = .ok (.iload_n 3, 1) := by decide +kernel
theorem dX0_commonDivisor_24 : decode cX0_commonDivisor 24 = .ok (.istore_n 2, 1) := by decide +kernel
theorem dX0_commonDivisor_25 : decode cX0_commonDivisor 25 = .ok (.iload 5, 2) := by decide +kernel
theorem dX0_commonDivisor_27 : decode cX0_commonDivisor 27 = .ok (.istore_n 3, 1) := by decide +kernel
theorem dX0_commonDivisor_28 : decode cX0_commonDivisor 28 = .ok (.iinc 4 1, 3) := by decide +kernel
theorem dX0_commonDivisor_31 : decode cX0_commonDivisor 31 = .ok (.goto (-24), 3) := by decide +kernel
theorem dX0_commonDivisor_34 : decode cX0_commonDivisor 34 = .ok (.iload_n 2, 1) := by decide +kernel
theorem dX0_commonDivisor_35 : decode cX0_commonDivisor 35 = .ok (.ireturn, 1) := by decide +kernel
theorem dX0_everybody_0 : decode cX0_everybody 0 = .ok (.iconst 1, 1) := by decide +kernel
theorem dX0_everybody_1 : decode cX0_everybody 1 = .ok (.aload_n 0, 1) := by decide +kernel
theorem dX0_everybody_2 : decode cX0_everybody 2 = .ok (.getfield 65, 3) := by decide +kernel
theorem dX0_everybody_5 : decode cX0_everybody 5 = .ok (.ishl, 1) := by decide +kernel
theorem dX0_everybody_6 : decode cX0_everybody 6 = .ok (.iconst 1, 1) := by decide +kernel
theorem dX0_everybody_7 : decode cX0_everybody 7 = .ok (.isub, 1) := by decide +kernel
theorem dX0_everybody_8 : decode cX0_everybody 8 = .ok (.ireturn, 1) := by decide +kernel
theorem dX0_everything_0 : decode cX0_everything 0 = .ok (.iconst 1, 1) := by decide +kernel
theorem dX0_everything_1 : decode cX0_everything 1 = .ok (.aload_n 0, 1) := by decide +kernel
theorem dX0_everything_2 : decode cX0_everything 2 = .ok (.getfield 46, 3) := by decide +kernel
theorem dX0_everything_5 : decode cX0_everything 5 = .ok (.ishl, 1) := by decide +kernel
theorem dX0_everything_6 : decode cX0_everything 6 = .ok (.iconst 1, 1) := by decide +kernel
theorem dX0_everything_7 : decode cX0_everything 7 = .ok (.isub, 1) := by decide +kernel
theorem dX0_everything_8 : decode cX0_everything 8 = .ok (.ireturn, 1) := by decide +kernel
theorem dX0_hasBelief_0 : decode cX0_hasBelief 0 = .ok (.iload_n 1, 1) := by decide +kernel
theorem dX0_hasBelief_1 : decode cX0_hasBelief 1 = .ok (.iconst 1, 1) := by decide +kernel
theorem dX0_hasBelief_2 : decode cX0_hasBelief 2 = .ok (.if_icmp .lt 15, 3) := by decide +kernel
theorem dX0_hasBelief_5 : decode cX0_hasBelief 5 = .ok (.iload_n 1, 1) := by decide +kernel
theorem dX0_hasBelief_6 : decode cX0_hasBelief 6 = .ok (.aload_n 0, 1) := by decide +kernel
theorem dX0_hasBelief_7 : decode cX0_hasBelief 7 = .ok (.invokevirtual 100, 3) := by decide +kernel
theorem dX0_hasBelief_10 : decode cX0_hasBelief 10 = .ok (.if_icmp .gt 7, 3) := by decide +kernel
theorem dX0_hasBelief_13 : decode cX0_hasBelief 13 = .ok (.iconst 1, 1) := by decide +kernel
theorem dX0_hasBelief_14 : decode cX0_hasBelief 14 = .ok (.goto 4, 3) := by decide +kernel
theorem dX0_hasBelief_17 : decode cX0_hasBelief 17 = .ok (.iconst 0, 1) := by decide +kernel
theorem dX0_hasBelief_18 : decode cX0_hasBelief 18 = .ok (.ireturn, 1) := by decide +kernel
theorem dX0_hasDay_0 : decode cX0_hasDay 0 = .ok (.iload_n 1, 1) := by decide +kernel
theorem dX0_hasDay_1 : decode cX0_hasDay 1 = .ok (.ifCond .lt 15, 3) := by decide +kernel
theorem dX0_hasDay_4 : decode cX0_hasDay 4 = .ok (.iload_n 1, 1) := by decide +kernel
theorem dX0_hasDay_5 : decode cX0_hasDay 5 = .ok (.aload_n 0, 1) := by decide +kernel
theorem dX0_hasDay_6 : decode cX0_hasDay 6 = .ok (.getfield 53, 3) := by decide +kernel
theorem dX0_hasDay_9 : decode cX0_hasDay 9 = .ok (.if_icmp .ge 7, 3) := by decide +kernel
theorem dX0_hasDay_12 : decode cX0_hasDay 12 = .ok (.iconst 1, 1) := by decide +kernel
theorem dX0_hasDay_13 : decode cX0_hasDay 13 = .ok (.goto 4, 3) := by decide +kernel
theorem dX0_hasDay_16 : decode cX0_hasDay 16 = .ok (.iconst 0, 1) := by decide +kernel
theorem dX0_hasDay_17 : decode cX0_hasDay 17 = .ok (.ireturn, 1) := by decide +kernel
theorem dX0_hasHearer_0 : decode cX0_hasHearer 0 = .ok (.iload_n 1, 1) := by decide +kernel
theorem dX0_hasHearer_1 : decode cX0_hasHearer 1 = .ok (.ifCond .lt 15, 3) := by decide +kernel
theorem dX0_hasHearer_4 : decode cX0_hasHearer 4 = .ok (.iload_n 1, 1) := by decide +kernel
theorem dX0_hasHearer_5 : decode cX0_hasHearer 5 = .ok (.aload_n 0, 1) := by decide +kernel
theorem dX0_hasHearer_6 : decode cX0_hasHearer 6 = .ok (.getfield 65, 3) := by decide +kernel
theorem dX0_hasHearer_9 : decode cX0_hasHearer 9 = .ok (.if_icmp .ge 7, 3) := by decide +kernel
theorem dX0_hasHearer_12 : decode cX0_hasHearer 12 = .ok (.iconst 1, 1) := by decide +kernel
theorem dX0_hasHearer_13 : decode cX0_hasHearer 13 = .ok (.goto 4, 3) := by decide +kernel
theorem dX0_hasHearer_16 : decode cX0_hasHearer 16 = .ok (.iconst 0, 1) := by decide +kernel
theorem dX0_hasHearer_17 : decode cX0_hasHearer 17 = .ok (.ireturn, 1) := by decide +kernel
theorem dX0_hasNews_0 : decode cX0_hasNews 0 = .ok (.iload_n 1, 1) := by decide +kernel
theorem dX0_hasNews_1 : decode cX0_hasNews 1 = .ok (.ifCond .lt 15, 3) := by decide +kernel
theorem dX0_hasNews_4 : decode cX0_hasNews 4 = .ok (.iload_n 1, 1) := by decide +kernel
theorem dX0_hasNews_5 : decode cX0_hasNews 5 = .ok (.aload_n 0, 1) := by decide +kernel
theorem dX0_hasNews_6 : decode cX0_hasNews 6 = .ok (.getfield 74, 3) := by decide +kernel
theorem dX0_hasNews_9 : decode cX0_hasNews 9 = .ok (.if_icmp .ge 7, 3) := by decide +kernel
theorem dX0_hasNews_12 : decode cX0_hasNews 12 = .ok (.iconst 1, 1) := by decide +kernel
theorem dX0_hasNews_13 : decode cX0_hasNews 13 = .ok (.goto 4, 3) := by decide +kernel
theorem dX0_hasNews_16 : decode cX0_hasNews 16 = .ok (.iconst 0, 1) := by decide +kernel
theorem dX0_hasNews_17 : decode cX0_hasNews 17 = .ok (.ireturn, 1) := by decide +kernel
theorem dX0_hasPlan_0 : decode cX0_hasPlan 0 = .ok (.iload_n 1, 1) := by decide +kernel
theorem dX0_hasPlan_1 : decode cX0_hasPlan 1 = .ok (.ifCond .lt 15, 3) := by decide +kernel
theorem dX0_hasPlan_4 : decode cX0_hasPlan 4 = .ok (.iload_n 1, 1) := by decide +kernel
theorem dX0_hasPlan_5 : decode cX0_hasPlan 5 = .ok (.aload_n 0, 1) := by decide +kernel
theorem dX0_hasPlan_6 : decode cX0_hasPlan 6 = .ok (.getfield 71, 3) := by decide +kernel
theorem dX0_hasPlan_9 : decode cX0_hasPlan 9 = .ok (.if_icmp .ge 7, 3) := by decide +kernel
theorem dX0_hasPlan_12 : decode cX0_hasPlan 12 = .ok (.iconst 1, 1) := by decide +kernel
theorem dX0_hasPlan_13 : decode cX0_hasPlan 13 = .ok (.goto 4, 3) := by decide +kernel
theorem dX0_hasPlan_16 : decode cX0_hasPlan 16 = .ok (.iconst 0, 1) := by decide +kernel
theorem dX0_hasPlan_17 : decode cX0_hasPlan 17 = .ok (.ireturn, 1) := by decide +kernel
theorem dX0_hasState_0 : decode cX0_hasState 0 = .ok (.iload_n 1, 1) := by decide +kernel
theorem dX0_hasState_1 : decode cX0_hasState 1 = .ok (.ifCond .lt 15, 3) := by decide +kernel
theorem dX0_hasState_4 : decode cX0_hasState 4 = .ok (.iload_n 1, 1) := by decide +kernel
theorem dX0_hasState_5 : decode cX0_hasState 5 = .ok (.aload_n 0, 1) := by decide +kernel
theorem dX0_hasState_6 : decode cX0_hasState 6 = .ok (.getfield 46, 3) := by decide +kernel
theorem dX0_hasState_9 : decode cX0_hasState 9 = .ok (.if_icmp .ge 7, 3) := by decide +kernel
theorem dX0_hasState_12 : decode cX0_hasState 12 = .ok (.iconst 1, 1) := by decide +kernel
theorem dX0_hasState_13 : decode cX0_hasState 13 = .ok (.goto 4, 3) := by decide +kernel
theorem dX0_hasState_16 : decode cX0_hasState 16 = .ok (.iconst 0, 1) := by decide +kernel
theorem dX0_hasState_17 : decode cX0_hasState 17 = .ok (.ireturn, 1) := by decide +kernel
theorem dX0_hasWord_0 : decode cX0_hasWord 0 = .ok (.iload_n 1, 1) := by decide +kernel
theorem dX0_hasWord_1 : decode cX0_hasWord 1 = .ok (.ifCond .lt 15, 3) := by decide +kernel
theorem dX0_hasWord_4 : decode cX0_hasWord 4 = .ok (.iload_n 1, 1) := by decide +kernel
theorem dX0_hasWord_5 : decode cX0_hasWord 5 = .ok (.aload_n 0, 1) := by decide +kernel
theorem dX0_hasWord_6 : decode cX0_hasWord 6 = .ok (.getfield 68, 3) := by decide +kernel
theorem dX0_hasWord_9 : decode cX0_hasWord 9 = .ok (.if_icmp .ge 7, 3) := by decide +kernel
theorem dX0_hasWord_12 : decode cX0_hasWord 12 = .ok (.iconst 1, 1) := by decide +kernel
theorem dX0_hasWord_13 : decode cX0_hasWord 13 = .ok (.goto 4, 3) := by decide +kernel
theorem dX0_hasWord_16 : decode cX0_hasWord 16 = .ok (.iconst 0, 1) := by decide +kernel
theorem dX0_hasWord_17 : decode cX0_hasWord 17 = .ok (.ireturn, 1) := by decide +kernel
theorem dX0_isTrue_0 : decode cX0_isTrue 0 = .ok (.aload_n 0, 1) := by decide +kernel
theorem dX0_isTrue_1 : decode cX0_isTrue 1 = .ok (.getfield 27, 3) := by decide +kernel
theorem dX0_isTrue_4 : decode cX0_isTrue 4 = .ok (.iload_n 1, 1) := by decide +kernel
theorem dX0_isTrue_5 : decode cX0_isTrue 5 = .ok (.iaload, 1) := by decide +kernel
theorem dX0_isTrue_6 : decode cX0_isTrue 6 = .ok (.aload_n 0, 1) := by decide +kernel
theorem dX0_isTrue_7 : decode cX0_isTrue 7 = .ok (.getfield 50, 3) := by decide +kernel
theorem dX0_isTrue_10 : decode cX0_isTrue 10 = .ok (.ishr, 1) := by decide +kernel
theorem dX0_isTrue_11 : decode cX0_isTrue 11 = .ok (.iconst 1, 1) := by decide +kernel
theorem dX0_isTrue_12 : decode cX0_isTrue 12 = .ok (.iand, 1) := by decide +kernel
theorem dX0_isTrue_13 : decode cX0_isTrue 13 = .ok (.iconst 1, 1) := by decide +kernel
theorem dX0_isTrue_14 : decode cX0_isTrue 14 = .ok (.if_icmp .ne 7, 3) := by decide +kernel
theorem dX0_isTrue_17 : decode cX0_isTrue 17 = .ok (.iconst 1, 1) := by decide +kernel
theorem dX0_isTrue_18 : decode cX0_isTrue 18 = .ok (.goto 4, 3) := by decide +kernel
theorem dX0_isTrue_21 : decode cX0_isTrue 21 = .ok (.iconst 0, 1) := by decide +kernel
theorem dX0_isTrue_22 : decode cX0_isTrue 22 = .ok (.ireturn, 1) := by decide +kernel
theorem dX0_meanOf_0 : decode cX0_meanOf 0 = .ok (.iconst 0, 1) := by decide +kernel
theorem dX0_meanOf_1 : decode cX0_meanOf 1 = .ok (.istore_n 3, 1) := by decide +kernel
theorem dX0_meanOf_2 : decode cX0_meanOf 2 = .ok (.iconst 0, 1) := by decide +kernel
theorem dX0_meanOf_3 : decode cX0_meanOf 3 = .ok (.istore 4, 2) := by decide +kernel
theorem dX0_meanOf_5 : decode cX0_meanOf 5 = .ok (.iconst 0, 1) := by decide +kernel
theorem dX0_meanOf_6 : decode cX0_meanOf 6 = .ok (.istore 5, 2) := by decide +kernel
theorem dX0_meanOf_8 : decode cX0_meanOf 8 = .ok (.iconst 0, 1) := by decide +kernel
theorem dX0_meanOf_9 : decode cX0_meanOf 9 = .ok (.istore 6, 2) := by decide +kernel
theorem dX0_meanOf_11 : decode cX0_meanOf 11 = .ok (.iconst 0, 1) := by decide +kernel
theorem dX0_meanOf_12 : decode cX0_meanOf 12 = .ok (.istore 7, 2) := by decide +kernel
theorem dX0_meanOf_14 : decode cX0_meanOf 14 = .ok (.iload 7, 2) := by decide +kernel
theorem dX0_meanOf_16 : decode cX0_meanOf 16 = .ok (.aload_n 0, 1) := by decide +kernel
theorem dX0_meanOf_17 : decode cX0_meanOf 17 = .ok (.getfield 46, 3) := by decide +kernel
theorem dX0_meanOf_20 : decode cX0_meanOf 20 = .ok (.if_icmp .ge 63, 3) := by decide +kernel
theorem dX0_meanOf_23 : decode cX0_meanOf 23 = .ok (.iload_n 2, 1) := by decide +kernel
theorem dX0_meanOf_24 : decode cX0_meanOf 24 = .ok (.iload 7, 2) := by decide +kernel
theorem dX0_meanOf_26 : decode cX0_meanOf 26 = .ok (.ishr, 1) := by decide +kernel
theorem dX0_meanOf_27 : decode cX0_meanOf 27 = .ok (.iconst 1, 1) := by decide +kernel
theorem dX0_meanOf_28 : decode cX0_meanOf 28 = .ok (.iand, 1) := by decide +kernel
theorem dX0_meanOf_29 : decode cX0_meanOf 29 = .ok (.iconst 1, 1) := by decide +kernel
theorem dX0_meanOf_30 : decode cX0_meanOf 30 = .ok (.if_icmp .ne 47, 3) := by decide +kernel
theorem dX0_meanOf_33 : decode cX0_meanOf 33 = .ok (.aload_n 0, 1) := by decide +kernel
theorem dX0_meanOf_34 : decode cX0_meanOf 34 = .ok (.iload_n 1, 1) := by decide +kernel
theorem dX0_meanOf_35 : decode cX0_meanOf 35 = .ok (.iload 7, 2) := by decide +kernel
theorem dX0_meanOf_37 : decode cX0_meanOf 37 = .ok (.invokevirtual 107, 3) := by decide +kernel
theorem dX0_meanOf_40 : decode cX0_meanOf 40 = .ok (.istore 8, 2) := by decide +kernel
theorem dX0_meanOf_42 : decode cX0_meanOf 42 = .ok (.iload_n 3, 1) := by decide +kernel
theorem dX0_meanOf_43 : decode cX0_meanOf 43 = .ok (.iload 8, 2) := by decide +kernel
theorem dX0_meanOf_45 : decode cX0_meanOf 45 = .ok (.iadd, 1) := by decide +kernel
theorem dX0_meanOf_46 : decode cX0_meanOf 46 = .ok (.istore_n 3, 1) := by decide +kernel
theorem dX0_meanOf_47 : decode cX0_meanOf 47 = .ok (.iload 4, 2) := by decide +kernel
theorem dX0_meanOf_49 : decode cX0_meanOf 49 = .ok (.iload 8, 2) := by decide +kernel
theorem dX0_meanOf_51 : decode cX0_meanOf 51 = .ok (.aload_n 0, 1) := by decide +kernel
theorem dX0_meanOf_52 : decode cX0_meanOf 52 = .ok (.getfield 9, 3) := by decide +kernel
theorem dX0_meanOf_55 : decode cX0_meanOf 55 = .ok (.iload 7, 2) := by decide +kernel
theorem dX0_meanOf_57 : decode cX0_meanOf 57 = .ok (.iaload, 1) := by decide +kernel
theorem dX0_meanOf_58 : decode cX0_meanOf 58 = .ok (.imul, 1) := by decide +kernel
theorem dX0_meanOf_59 : decode cX0_meanOf 59 = .ok (.iadd, 1) := by decide +kernel
theorem dX0_meanOf_60 : decode cX0_meanOf 60 = .ok (.istore 4, 2) := by decide +kernel
theorem dX0_meanOf_62 : decode cX0_meanOf 62 = .ok (.iinc 5 1, 3) := by decide +kernel
theorem dX0_meanOf_65 : decode cX0_meanOf 65 = .ok (.iload 6, 2) := by decide +kernel
theorem dX0_meanOf_67 : decode cX0_meanOf 67 = .ok (.aload_n 0, 1) := by decide +kernel
theorem dX0_meanOf_68 : decode cX0_meanOf 68 = .ok (.getfield 9, 3) := by decide +kernel
theorem dX0_meanOf_71 : decode cX0_meanOf 71 = .ok (.iload 7, 2) := by decide +kernel
theorem dX0_meanOf_73 : decode cX0_meanOf 73 = .ok (.iaload, 1) := by decide +kernel
theorem dX0_meanOf_74 : decode cX0_meanOf 74 = .ok (.iadd, 1) := by decide +kernel
theorem dX0_meanOf_75 : decode cX0_meanOf 75 = .ok (.istore 6, 2) := by decide +kernel
theorem dX0_meanOf_77 : decode cX0_meanOf 77 = .ok (.iinc 7 1, 3) := by decide +kernel
theorem dX0_meanOf_80 : decode cX0_meanOf 80 = .ok (.goto (-66), 3) := by decide +kernel
theorem dX0_meanOf_83 : decode cX0_meanOf 83 = .ok (.iload_n 3, 1) := by decide +kernel
theorem dX0_meanOf_84 : decode cX0_meanOf 84 = .ok (.ifCond .le 11, 3) := by decide +kernel
theorem dX0_meanOf_87 : decode cX0_meanOf 87 = .ok (.bipush 100, 2) := by decide +kernel
theorem dX0_meanOf_89 : decode cX0_meanOf 89 = .ok (.iload 4, 2) := by decide +kernel
theorem dX0_meanOf_91 : decode cX0_meanOf 91 = .ok (.imul, 1) := by decide +kernel
theorem dX0_meanOf_92 : decode cX0_meanOf 92 = .ok (.iload_n 3, 1) := by decide +kernel
theorem dX0_meanOf_93 : decode cX0_meanOf 93 = .ok (.idiv, 1) := by decide +kernel
theorem dX0_meanOf_94 : decode cX0_meanOf 94 = .ok (.ireturn, 1) := by decide +kernel
theorem dX0_meanOf_95 : decode cX0_meanOf 95 = .ok (.iload 5, 2) := by decide +kernel
theorem dX0_meanOf_97 : decode cX0_meanOf 97 = .ok (.ifCond .le 14, 3) := by decide +kernel
theorem dX0_meanOf_100 : decode cX0_meanOf 100 = .ok (.bipush 100, 2) := by decide +kernel
theorem dX0_meanOf_102 : decode cX0_meanOf 102 = .ok (.iload 6, 2) := by decide +kernel
theorem dX0_meanOf_104 : decode cX0_meanOf 104 = .ok (.imul, 1) := by decide +kernel
theorem dX0_meanOf_105 : decode cX0_meanOf 105 = .ok (.iload 5, 2) := by decide +kernel
theorem dX0_meanOf_107 : decode cX0_meanOf 107 = .ok (.idiv, 1) := by decide +kernel
theorem dX0_meanOf_108 : decode cX0_meanOf 108 = .ok (.goto 4, 3) := by decide +kernel
theorem dX0_meanOf_111 : decode cX0_meanOf 111 = .ok (.iconst 0, 1) := by decide +kernel
theorem dX0_meanOf_112 : decode cX0_meanOf 112 = .ok (.ireturn, 1) := by decide +kernel
theorem dX0_nextBelief_0 : decode cX0_nextBelief 0 = .ok (.aload_n 0, 1) := by decide +kernel
theorem dX0_nextBelief_1 : decode cX0_nextBelief 1 = .ok (.iload_n 2, 1) := by decide +kernel
theorem dX0_nextBelief_2 : decode cX0_nextBelief 2 = .ok (.invokevirtual 96, 3) := by decide +kernel
theorem dX0_nextBelief_5 : decode cX0_nextBelief 5 = .ok (.ifCond .ne 5, 3) := by decide +kernel
theorem dX0_nextBelief_8 : decode cX0_nextBelief 8 = .ok (.iload_n 1, 1) := by decide +kernel
theorem dX0_nextBelief_9 : decode cX0_nextBelief 9 = .ok (.ireturn, 1) := by decide +kernel
theorem dX0_nextBelief_10 : decode cX0_nextBelief 10 = .ok (.iload_n 1, 1) := by decide +kernel
theorem dX0_nextBelief_11 : decode cX0_nextBelief 11 = .ok (.aload_n 0, 1) := by decide +kernel
theorem dX0_nextBelief_12 : decode cX0_nextBelief 12 = .ok (.getfield 27, 3) := by decide +kernel
theorem dX0_nextBelief_15 : decode cX0_nextBelief 15 = .ok (.iload_n 2, 1) := by decide +kernel
theorem dX0_nextBelief_16 : decode cX0_nextBelief 16 = .ok (.iaload, 1) := by decide +kernel
theorem dX0_nextBelief_17 : decode cX0_nextBelief 17 = .ok (.iand, 1) := by decide +kernel
theorem dX0_nextBelief_18 : decode cX0_nextBelief 18 = .ok (.istore_n 3, 1) := by decide +kernel
theorem dX0_nextBelief_19 : decode cX0_nextBelief 19 = .ok (.iload_n 3, 1) := by decide +kernel
theorem dX0_nextBelief_20 : decode cX0_nextBelief 20 = .ok (.ifCond .ne 12, 3) := by decide +kernel
theorem dX0_nextBelief_23 : decode cX0_nextBelief 23 = .ok (.aload_n 0, 1) := by decide +kernel
theorem dX0_nextBelief_24 : decode cX0_nextBelief 24 = .ok (.getfield 27, 3) := by decide +kernel
theorem dX0_nextBelief_27 : decode cX0_nextBelief 27 = .ok (.iload_n 2, 1) := by decide +kernel
theorem dX0_nextBelief_28 : decode cX0_nextBelief 28 = .ok (.iaload, 1) := by decide +kernel
theorem dX0_nextBelief_29 : decode cX0_nextBelief 29 = .ok (.goto 4, 3) := by decide +kernel
theorem dX0_nextBelief_32 : decode cX0_nextBelief 32 = .ok (.iload_n 3, 1) := by decide +kernel
theorem dX0_nextBelief_33 : decode cX0_nextBelief 33 = .ok (.ireturn, 1) := by decide +kernel
theorem dX0_planWord_0 : decode cX0_planWord 0 = .ok (.iload_n 2, 1) := by decide +kernel
theorem dX0_planWord_1 : decode cX0_planWord 1 = .ok (.ifCond .lt 26, 3) := by decide +kernel
theorem dX0_planWord_4 : decode cX0_planWord 4 = .ok (.iload_n 2, 1) := by decide +kernel
theorem dX0_planWord_5 : decode cX0_planWord 5 = .ok (.aload_n 0, 1) := by decide +kernel
theorem dX0_planWord_6 : decode cX0_planWord 6 = .ok (.getfield 30, 3) := by decide +kernel
theorem dX0_planWord_9 : decode cX0_planWord 9 = .ok (.iload_n 1, 1) := by decide +kernel
theorem dX0_planWord_10 : decode cX0_planWord 10 = .ok (.iaload, 1) := by decide +kernel
theorem dX0_planWord_11 : decode cX0_planWord 11 = .ok (.if_icmp .ge 16, 3) := by decide +kernel
theorem dX0_planWord_14 : decode cX0_planWord 14 = .ok (.aload_n 0, 1) := by decide +kernel
theorem dX0_planWord_15 : decode cX0_planWord 15 = .ok (.getfield 33, 3) := by decide +kernel
theorem dX0_planWord_18 : decode cX0_planWord 18 = .ok (.iload_n 1, 1) := by decide +kernel
theorem dX0_planWord_19 : decode cX0_planWord 19 = .ok (.iconst 5, 1) := by decide +kernel
theorem dX0_planWord_20 : decode cX0_planWord 20 = .ok (.imul, 1) := by decide +kernel
theorem dX0_planWord_21 : decode cX0_planWord 21 = .ok (.iload_n 2, 1) := by decide +kernel
theorem dX0_planWord_22 : decode cX0_planWord 22 = .ok (.iadd, 1) := by decide +kernel
theorem dX0_planWord_23 : decode cX0_planWord 23 = .ok (.iaload, 1) := by decide +kernel
theorem dX0_planWord_24 : decode cX0_planWord 24 = .ok (.goto 4, 3) := by decide +kernel
theorem dX0_planWord_27 : decode cX0_planWord 27 = .ok (.iconst (-1), 1) := by decide +kernel
theorem dX0_planWord_28 : decode cX0_planWord 28 = .ok (.ireturn, 1) := by decide +kernel
theorem dX0_shameOf_0 : decode cX0_shameOf 0 = .ok (.aload_n 0, 1) := by decide +kernel
theorem dX0_shameOf_1 : decode cX0_shameOf 1 = .ok (.iload_n 1, 1) := by decide +kernel
theorem dX0_shameOf_2 : decode cX0_shameOf 2 = .ok (.invokevirtual 96, 3) := by decide +kernel
theorem dX0_shameOf_5 : decode cX0_shameOf 5 = .ok (.ifCond .eq 20, 3) := by decide +kernel
theorem dX0_shameOf_8 : decode cX0_shameOf 8 = .ok (.aload_n 0, 1) := by decide +kernel
theorem dX0_shameOf_9 : decode cX0_shameOf 9 = .ok (.iload_n 1, 1) := by decide +kernel
theorem dX0_shameOf_10 : decode cX0_shameOf 10 = .ok (.invokevirtual 104, 3) := by decide +kernel
theorem dX0_shameOf_13 : decode cX0_shameOf 13 = .ok (.ifCond .ne 12, 3) := by decide +kernel
theorem dX0_shameOf_16 : decode cX0_shameOf 16 = .ok (.aload_n 0, 1) := by decide +kernel
theorem dX0_shameOf_17 : decode cX0_shameOf 17 = .ok (.getfield 24, 3) := by decide +kernel
theorem dX0_shameOf_20 : decode cX0_shameOf 20 = .ok (.iload_n 1, 1) := by decide +kernel
theorem dX0_shameOf_21 : decode cX0_shameOf 21 = .ok (.iaload, 1) := by decide +kernel
theorem dX0_shameOf_22 : decode cX0_shameOf 22 = .ok (.goto 4, 3) := by decide +kernel
theorem dX0_shameOf_25 : decode cX0_shameOf 25 = .ok (.iconst 0, 1) := by decide +kernel
theorem dX0_shameOf_26 : decode cX0_shameOf 26 = .ok (.ireturn, 1) := by decide +kernel
theorem dX0_stands_0 : decode cX0_stands 0 = .ok (.aload_n 0, 1) := by decide +kernel
theorem dX0_stands_1 : decode cX0_stands 1 = .ok (.getfield 62, 3) := by decide +kernel
theorem dX0_stands_4 : decode cX0_stands 4 = .ok (.ifCond .le 7, 3) := by decide +kernel
theorem dX0_stands_7 : decode cX0_stands 7 = .ok (.iconst 1, 1) := by decide +kernel
theorem dX0_stands_8 : decode cX0_stands 8 = .ok (.goto 4, 3) := by decide +kernel
theorem dX0_stands_11 : decode cX0_stands 11 = .ok (.iconst 0, 1) := by decide +kernel
theorem dX0_stands_12 : decode cX0_stands 12 = .ok (.ireturn, 1) := by decide +kernel
theorem dX0_thoughtOf_0 : decode cX0_thoughtOf 0 = .ok (.aload_n 0, 1) := by decide +kernel
theorem dX0_thoughtOf_1 : decode cX0_thoughtOf 1 = .ok (.getfield 15, 3) := by decide +kernel
theorem dX0_thoughtOf_4 : decode cX0_thoughtOf 4 = .ok (.iload_n 1, 1) := by decide +kernel
theorem dX0_thoughtOf_5 : decode cX0_thoughtOf 5 = .ok (.bipush 8, 2) := by decide +kernel
theorem dX0_thoughtOf_7 : decode cX0_thoughtOf 7 = .ok (.imul, 1) := by decide +kernel
theorem dX0_thoughtOf_8 : decode cX0_thoughtOf 8 = .ok (.iload_n 2, 1) := by decide +kernel
theorem dX0_thoughtOf_9 : decode cX0_thoughtOf 9 = .ok (.iadd, 1) := by decide +kernel
theorem dX0_thoughtOf_10 : decode cX0_thoughtOf 10 = .ok (.iaload, 1) := by decide +kernel
theorem dX0_thoughtOf_11 : decode cX0_thoughtOf 11 = .ok (.ireturn, 1) := by decide +kernel
theorem dX0_truth_0 : decode cX0_truth 0 = .ok (.iconst 1, 1) := by decide +kernel
theorem dX0_truth_1 : decode cX0_truth 1 = .ok (.aload_n 0, 1) := by decide +kernel
theorem dX0_truth_2 : decode cX0_truth 2 = .ok (.getfield 50, 3) := by decide +kernel
theorem dX0_truth_5 : decode cX0_truth 5 = .ok (.ishl, 1) := by decide +kernel
theorem dX0_truth_6 : decode cX0_truth 6 = .ok (.ireturn, 1) := by decide +kernel
