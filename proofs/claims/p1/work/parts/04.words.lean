theorem tin_1 : ∀ w ∈ tables_1_1, w ∈ lw_tbl := fun w h => List.mem_append_right (k2_sels lw_privs) (show w ∈ tables_1 from List.mem_append_left _ h)
theorem tin_2 : ∀ w ∈ tables_1_2, w ∈ lw_tbl := fun w h => List.mem_append_right (k2_sels lw_privs) (show w ∈ tables_1 from List.mem_append_right _ (List.mem_append_left _ h))
theorem tin_3 : ∀ w ∈ tables_1_3, w ∈ lw_tbl := fun w h => List.mem_append_right (k2_sels lw_privs) (show w ∈ tables_1 from List.mem_append_right _ (List.mem_append_right _ (List.mem_append_left _ h)))
theorem tin_4 : ∀ w ∈ tables_1_4, w ∈ lw_tbl := fun w h => List.mem_append_right (k2_sels lw_privs) (show w ∈ tables_1 from List.mem_append_right _ (List.mem_append_right _ (List.mem_append_right _ (List.mem_append_left _ h))))
theorem tin_5 : ∀ w ∈ tables_1_5, w ∈ lw_tbl := fun w h => List.mem_append_right (k2_sels lw_privs) (show w ∈ tables_1 from List.mem_append_right _ (List.mem_append_right _ (List.mem_append_right _ (List.mem_append_right _ (List.mem_append_left _ h)))))
theorem tin_6 : ∀ w ∈ tables_1_6, w ∈ lw_tbl := fun w h => List.mem_append_right (k2_sels lw_privs) (show w ∈ tables_1 from List.mem_append_right _ (List.mem_append_right _ (List.mem_append_right _ (List.mem_append_right _ (List.mem_append_right _ (List.mem_append_left _ h))))))
theorem tin_7 : ∀ w ∈ tables_1_7, w ∈ lw_tbl := fun w h => List.mem_append_right (k2_sels lw_privs) (show w ∈ tables_1 from List.mem_append_right _ (List.mem_append_right _ (List.mem_append_right _ (List.mem_append_right _ (List.mem_append_right _ (List.mem_append_right _ (List.mem_append_left _ h)))))))
theorem tin_8 : ∀ w ∈ tables_1_8, w ∈ lw_tbl := fun w h => List.mem_append_right (k2_sels lw_privs) (show w ∈ tables_1 from List.mem_append_right _ (List.mem_append_right _ (List.mem_append_right _ (List.mem_append_right _ (List.mem_append_right _ (List.mem_append_right _ (List.mem_append_right _ (List.mem_append_left _ h))))))))
theorem tin_9 : ∀ w ∈ tables_1_9, w ∈ lw_tbl := fun w h => List.mem_append_right (k2_sels lw_privs) (show w ∈ tables_1 from List.mem_append_right _ (List.mem_append_right _ (List.mem_append_right _ (List.mem_append_right _ (List.mem_append_right _ (List.mem_append_right _ (List.mem_append_right _ (List.mem_append_right _ (h)))))))))
theorem sin_1 : ∀ w ∈ k2_sels lw_privs_1, w ∈ lw_tbl := fun w hw => List.mem_append_left tables_1 (show w ∈ k2_sels lw_privs from by
  obtain ⟨q, h, hq⟩ := List.mem_map.mp hw
  exact List.mem_map.mpr ⟨q, (show q ∈ lw_privs from List.mem_append_left _ h), hq⟩)
theorem sin_2 : ∀ w ∈ k2_sels lw_privs_2, w ∈ lw_tbl := fun w hw => List.mem_append_left tables_1 (show w ∈ k2_sels lw_privs from by
  obtain ⟨q, h, hq⟩ := List.mem_map.mp hw
  exact List.mem_map.mpr ⟨q, (show q ∈ lw_privs from List.mem_append_right _ (List.mem_append_left _ h)), hq⟩)
theorem sin_3 : ∀ w ∈ k2_sels lw_privs_3, w ∈ lw_tbl := fun w hw => List.mem_append_left tables_1 (show w ∈ k2_sels lw_privs from by
  obtain ⟨q, h, hq⟩ := List.mem_map.mp hw
  exact List.mem_map.mpr ⟨q, (show q ∈ lw_privs from List.mem_append_right _ (List.mem_append_right _ (List.mem_append_left _ h))), hq⟩)
theorem sin_4 : ∀ w ∈ k2_sels lw_privs_4, w ∈ lw_tbl := fun w hw => List.mem_append_left tables_1 (show w ∈ k2_sels lw_privs from by
  obtain ⟨q, h, hq⟩ := List.mem_map.mp hw
  exact List.mem_map.mpr ⟨q, (show q ∈ lw_privs from List.mem_append_right _ (List.mem_append_right _ (List.mem_append_right _ (List.mem_append_left _ h)))), hq⟩)
theorem sin_5 : ∀ w ∈ k2_sels lw_privs_5, w ∈ lw_tbl := fun w hw => List.mem_append_left tables_1 (show w ∈ k2_sels lw_privs from by
  obtain ⟨q, h, hq⟩ := List.mem_map.mp hw
  exact List.mem_map.mpr ⟨q, (show q ∈ lw_privs from List.mem_append_right _ (List.mem_append_right _ (List.mem_append_right _ (List.mem_append_right _ (List.mem_append_left _ h))))), hq⟩)
theorem sin_6 : ∀ w ∈ k2_sels lw_privs_6, w ∈ lw_tbl := fun w hw => List.mem_append_left tables_1 (show w ∈ k2_sels lw_privs from by
  obtain ⟨q, h, hq⟩ := List.mem_map.mp hw
  exact List.mem_map.mpr ⟨q, (show q ∈ lw_privs from List.mem_append_right _ (List.mem_append_right _ (List.mem_append_right _ (List.mem_append_right _ (List.mem_append_right _ (List.mem_append_left _ h)))))), hq⟩)
theorem sin_7 : ∀ w ∈ k2_sels lw_privs_7, w ∈ lw_tbl := fun w hw => List.mem_append_left tables_1 (show w ∈ k2_sels lw_privs from by
  obtain ⟨q, h, hq⟩ := List.mem_map.mp hw
  exact List.mem_map.mpr ⟨q, (show q ∈ lw_privs from List.mem_append_right _ (List.mem_append_right _ (List.mem_append_right _ (List.mem_append_right _ (List.mem_append_right _ (List.mem_append_right _ (List.mem_append_left _ h))))))), hq⟩)
theorem sin_8 : ∀ w ∈ k2_sels lw_privs_8, w ∈ lw_tbl := fun w hw => List.mem_append_left tables_1 (show w ∈ k2_sels lw_privs from by
  obtain ⟨q, h, hq⟩ := List.mem_map.mp hw
  exact List.mem_map.mpr ⟨q, (show q ∈ lw_privs from List.mem_append_right _ (List.mem_append_right _ (List.mem_append_right _ (List.mem_append_right _ (List.mem_append_right _ (List.mem_append_right _ (List.mem_append_right _ (List.mem_append_left _ h)))))))), hq⟩)
theorem sin_9 : ∀ w ∈ k2_sels lw_privs_9, w ∈ lw_tbl := fun w hw => List.mem_append_left tables_1 (show w ∈ k2_sels lw_privs from by
  obtain ⟨q, h, hq⟩ := List.mem_map.mp hw
  exact List.mem_map.mpr ⟨q, (show q ∈ lw_privs from List.mem_append_right _ (List.mem_append_right _ (List.mem_append_right _ (List.mem_append_right _ (List.mem_append_right _ (List.mem_append_right _ (List.mem_append_right _ (List.mem_append_right _ (List.mem_append_left _ h))))))))), hq⟩)
theorem sin_10 : ∀ w ∈ k2_sels lw_privs_10, w ∈ lw_tbl := fun w hw => List.mem_append_left tables_1 (show w ∈ k2_sels lw_privs from by
  obtain ⟨q, h, hq⟩ := List.mem_map.mp hw
  exact List.mem_map.mpr ⟨q, (show q ∈ lw_privs from List.mem_append_right _ (List.mem_append_right _ (List.mem_append_right _ (List.mem_append_right _ (List.mem_append_right _ (List.mem_append_right _ (List.mem_append_right _ (List.mem_append_right _ (List.mem_append_right _ (List.mem_append_left _ h)))))))))), hq⟩)
theorem sin_11 : ∀ w ∈ k2_sels lw_privs_11, w ∈ lw_tbl := fun w hw => List.mem_append_left tables_1 (show w ∈ k2_sels lw_privs from by
  obtain ⟨q, h, hq⟩ := List.mem_map.mp hw
  exact List.mem_map.mpr ⟨q, (show q ∈ lw_privs from List.mem_append_right _ (List.mem_append_right _ (List.mem_append_right _ (List.mem_append_right _ (List.mem_append_right _ (List.mem_append_right _ (List.mem_append_right _ (List.mem_append_right _ (List.mem_append_right _ (List.mem_append_right _ (h))))))))))), hq⟩)
theorem b_0 : Cond.fieldLink RX0 46 "GentleLetters$Desk" "states" "I" ∈ BIG := bi (tin_1 _ (List.mem_of_getElem? (i := 97) rfl)) rfl
theorem b_1 : Cond.fieldLink RX0 62 "GentleLetters$Desk" "lines" "I" ∈ BIG := bi (tin_1 _ (List.mem_of_getElem? (i := 116) rfl)) rfl
theorem b_2 : Cond.fieldLink RX0 53 "GentleLetters$Desk" "days" "I" ∈ BIG := bi (tin_1 _ (List.mem_of_getElem? (i := 105) rfl)) rfl
theorem b_3 : Cond.fieldLink RX0 65 "GentleLetters$Desk" "hearers" "I" ∈ BIG := bi (tin_1 _ (List.mem_of_getElem? (i := 119) rfl)) rfl
theorem b_4 : Cond.fieldLink RX0 68 "GentleLetters$Desk" "words" "I" ∈ BIG := bi (tin_1 _ (List.mem_of_getElem? (i := 122) rfl)) rfl
theorem b_5 : Cond.fieldLink RX0 71 "GentleLetters$Desk" "plans" "I" ∈ BIG := bi (tin_1 _ (List.mem_of_getElem? (i := 129) rfl)) rfl
theorem b_6 : Cond.fieldLink RX0 74 "GentleLetters$Desk" "news" "I" ∈ BIG := bi (tin_1 _ (List.mem_of_getElem? (i := 133) rfl)) rfl
theorem b_7 : Cond.methodLink RX0 100 yX0_everything ∈ BIG := bi (tin_3 _ (List.mem_of_getElem? (i := 200) rfl)) rfl
theorem b_8 : Cond.constant RX11 434 (2000000000) ∈ BIG := bi (tin_6 _ (List.mem_of_getElem? (i := 33) rfl)) rfl
theorem b_9 : Cond.methodLink RX11 398 yX11_isSlot ∈ BIG := bi (tin_4 _ (List.mem_of_getElem? (i := 24) rfl)) rfl
theorem b_10 : Cond.fieldLink RX11 19 "GentleLetters" "desk" "LGentleLetters$Desk;" ∈ BIG := bi (tin_2 _ (List.mem_of_getElem? (i := 158) rfl)) rfl
theorem b_11 : Cond.methodLinkNest RX11 245 yX0_stands RX11 ∈ nests := ne (tin_4 _ (List.mem_of_getElem? (i := 27) rfl)) rfl
theorem b_12 : Cond.methodLinkNest RX11 122 yX0_hasHearer RX11 ∈ nests := ne (tin_3 _ (List.mem_of_getElem? (i := 148) rfl)) rfl
theorem b_13 : Cond.methodLinkNest RX11 114 yX0_hasState RX11 ∈ nests := ne (tin_3 _ (List.mem_of_getElem? (i := 140) rfl)) rfl
theorem b_14 : Cond.methodLinkNest RX11 132 yX0_hasWord RX11 ∈ nests := ne (tin_3 _ (List.mem_of_getElem? (i := 160) rfl)) rfl
theorem b_15 : Cond.methodLinkNest RX11 144 yX0_hasPlan RX11 ∈ nests := ne (tin_3 _ (List.mem_of_getElem? (i := 172) rfl)) rfl
theorem b_16 : Cond.methodLinkNest RX11 150 yX0_hasNews RX11 ∈ nests := ne (tin_3 _ (List.mem_of_getElem? (i := 184) rfl)) rfl
theorem b_17 : Cond.methodLinkNest RX11 159 yX0_hasBelief RX11 ∈ nests := ne (tin_3 _ (List.mem_of_getElem? (i := 196) rfl)) rfl
theorem b_18 : Cond.methodLink RX11 183 yX11_takeWeek ∈ BIG := bi (tin_4 _ (List.mem_of_getElem? (i := 20) rfl)) rfl
theorem b_19 : Cond.methodLink RX11 191 yX11_feelWeek ∈ BIG := bi (tin_4 _ (List.mem_of_getElem? (i := 54) rfl)) rfl
theorem b_20 : Cond.methodLink RX11 216 yX11_orderWeek ∈ BIG := bi (tin_4 _ (List.mem_of_getElem? (i := 129) rfl)) rfl
theorem b_21 : Cond.methodLink RX11 241 yX11_wordOfBest ∈ BIG := bi (tin_4 _ (List.mem_of_getElem? (i := 225) rfl)) rfl
theorem b_22 : Cond.methodLink RX11 305 yX11_reckonWeek ∈ BIG := bi (tin_5 _ (List.mem_of_getElem? (i := 144) rfl)) rfl
theorem b_23 : Cond.methodLink RX11 371 yX11_isSeed ∈ BIG := bi (tin_6 _ (List.mem_of_getElem? (i := 30) rfl)) rfl
theorem b_24 : Cond.code yX11_feelWeek cX11_feelWeek 4 (some .int) ∈ BIG := bi (tin_4 _ (List.mem_of_getElem? (i := 57) rfl)) rfl
theorem b_25 : Cond.instanceMethod yX11_feelWeek ∈ BIG := bi (tin_4 _ (List.mem_of_getElem? (i := 56) rfl)) rfl
theorem b_26 : Cond.selects RX11 yX11_feelWeek yX11_feelWeek ∈ BIG := bi (sin_3 _ (List.mem_map.mpr ⟨(yX11_feelWeek, 11), List.mem_of_getElem? (i := 11) rfl, rfl⟩)) rfl
theorem b_27 : Cond.initialized RX11 ∈ BIG := bi (tin_1 _ (List.mem_of_getElem? (i := 1) rfl)) rfl
theorem b_28 : Cond.code yX11_isSeed cX11_isSeed 1 (some .boolean) ∈ BIG := bi (tin_6 _ (List.mem_of_getElem? (i := 32) rfl)) rfl
theorem b_29 : Cond.static yX11_isSeed ∈ BIG := bi (tin_6 _ (List.mem_of_getElem? (i := 31) rfl)) rfl
theorem b_30 : Cond.code yX11_isSlot cX11_isSlot 1 (some .boolean) ∈ BIG := bi (tin_4 _ (List.mem_of_getElem? (i := 26) rfl)) rfl
theorem b_31 : Cond.static yX11_isSlot ∈ BIG := bi (tin_4 _ (List.mem_of_getElem? (i := 25) rfl)) rfl
theorem b_32 : Cond.code yX11_orderWeek cX11_orderWeek 4 (some .int) ∈ BIG := bi (tin_4 _ (List.mem_of_getElem? (i := 132) rfl)) rfl
theorem b_33 : Cond.instanceMethod yX11_orderWeek ∈ BIG := bi (tin_4 _ (List.mem_of_getElem? (i := 131) rfl)) rfl
theorem b_34 : Cond.selects RX11 yX11_orderWeek yX11_orderWeek ∈ BIG := bi (sin_4 _ (List.mem_map.mpr ⟨(yX11_orderWeek, 11), List.mem_of_getElem? (i := 6) rfl, rfl⟩)) rfl
theorem b_35 : Cond.code yX11_reckonWeek cX11_reckonWeek 4 (some .int) ∈ BIG := bi (tin_5 _ (List.mem_of_getElem? (i := 147) rfl)) rfl
theorem b_36 : Cond.instanceMethod yX11_reckonWeek ∈ BIG := bi (tin_5 _ (List.mem_of_getElem? (i := 146) rfl)) rfl
theorem b_37 : Cond.selects RX11 yX11_reckonWeek yX11_reckonWeek ∈ BIG := bi (sin_6 _ (List.mem_map.mpr ⟨(yX11_reckonWeek, 11), List.mem_of_getElem? (i := 1) rfl, rfl⟩)) rfl
theorem b_38 : Cond.code yX11_takeWeek cX11_takeWeek 3 (some .int) ∈ BIG := bi (tin_4 _ (List.mem_of_getElem? (i := 23) rfl)) rfl
theorem b_39 : Cond.instanceMethod yX11_takeWeek ∈ BIG := bi (tin_4 _ (List.mem_of_getElem? (i := 22) rfl)) rfl
theorem b_40 : Cond.selects RX11 yX11_takeWeek yX11_takeWeek ∈ BIG := bi (sin_3 _ (List.mem_map.mpr ⟨(yX11_takeWeek, 11), List.mem_of_getElem? (i := 5) rfl, rfl⟩)) rfl
theorem b_41 : Cond.code yX11_wordOfBest cX11_wordOfBest 5 (some .int) ∈ BIG := bi (tin_4 _ (List.mem_of_getElem? (i := 228) rfl)) rfl
theorem b_42 : Cond.instanceMethod yX11_wordOfBest ∈ BIG := bi (tin_4 _ (List.mem_of_getElem? (i := 227) rfl)) rfl
theorem b_43 : Cond.selects RX11 yX11_wordOfBest yX11_wordOfBest ∈ BIG := bi (sin_5 _ (List.mem_map.mpr ⟨(yX11_wordOfBest, 11), List.mem_of_getElem? (i := 5) rfl, rfl⟩)) rfl
theorem b_44 : Cond.code yX0_everything cX0_everything 1 (some .int) ∈ BIG := bi (tin_3 _ (List.mem_of_getElem? (i := 203) rfl)) rfl
theorem b_45 : Cond.instanceMethod yX0_everything ∈ BIG := bi (tin_3 _ (List.mem_of_getElem? (i := 202) rfl)) rfl
theorem b_46 : Cond.selects RX0 yX0_everything yX0_everything ∈ BIG := bi (sin_2 _ (List.mem_map.mpr ⟨(yX0_everything, 20), List.mem_of_getElem? (i := 15) rfl, rfl⟩)) rfl
theorem b_47 : Cond.initialized RX0 ∈ BIG := bi (tin_1 _ (List.mem_of_getElem? (i := 4) rfl)) rfl
theorem b_48 : Cond.code yX0_hasBelief cX0_hasBelief 2 (some .boolean) ∈ BIG := bi (tin_3 _ (List.mem_of_getElem? (i := 199) rfl)) rfl
theorem b_49 : Cond.instanceMethod yX0_hasBelief ∈ BIG := bi (tin_3 _ (List.mem_of_getElem? (i := 198) rfl)) rfl
theorem b_50 : Cond.selects RX0 yX0_hasBelief yX0_hasBelief ∈ BIG := bi (sin_2 _ (List.mem_map.mpr ⟨(yX0_hasBelief, 20), List.mem_of_getElem? (i := 14) rfl, rfl⟩)) rfl
theorem b_51 : Cond.code yX0_hasHearer cX0_hasHearer 2 (some .boolean) ∈ BIG := bi (tin_3 _ (List.mem_of_getElem? (i := 151) rfl)) rfl
theorem b_52 : Cond.instanceMethod yX0_hasHearer ∈ BIG := bi (tin_3 _ (List.mem_of_getElem? (i := 150) rfl)) rfl
theorem b_53 : Cond.selects RX0 yX0_hasHearer yX0_hasHearer ∈ BIG := bi (sin_2 _ (List.mem_map.mpr ⟨(yX0_hasHearer, 20), List.mem_of_getElem? (i := 7) rfl, rfl⟩)) rfl
theorem b_54 : Cond.code yX0_hasNews cX0_hasNews 2 (some .boolean) ∈ BIG := bi (tin_3 _ (List.mem_of_getElem? (i := 187) rfl)) rfl
theorem b_55 : Cond.instanceMethod yX0_hasNews ∈ BIG := bi (tin_3 _ (List.mem_of_getElem? (i := 186) rfl)) rfl
theorem b_56 : Cond.selects RX0 yX0_hasNews yX0_hasNews ∈ BIG := bi (sin_2 _ (List.mem_map.mpr ⟨(yX0_hasNews, 20), List.mem_of_getElem? (i := 13) rfl, rfl⟩)) rfl
theorem b_57 : Cond.code yX0_hasPlan cX0_hasPlan 2 (some .boolean) ∈ BIG := bi (tin_3 _ (List.mem_of_getElem? (i := 175) rfl)) rfl
theorem b_58 : Cond.instanceMethod yX0_hasPlan ∈ BIG := bi (tin_3 _ (List.mem_of_getElem? (i := 174) rfl)) rfl
theorem b_59 : Cond.selects RX0 yX0_hasPlan yX0_hasPlan ∈ BIG := bi (sin_2 _ (List.mem_map.mpr ⟨(yX0_hasPlan, 20), List.mem_of_getElem? (i := 11) rfl, rfl⟩)) rfl
theorem b_60 : Cond.code yX0_hasState cX0_hasState 2 (some .boolean) ∈ BIG := bi (tin_3 _ (List.mem_of_getElem? (i := 143) rfl)) rfl
theorem b_61 : Cond.instanceMethod yX0_hasState ∈ BIG := bi (tin_3 _ (List.mem_of_getElem? (i := 142) rfl)) rfl
theorem b_62 : Cond.selects RX0 yX0_hasState yX0_hasState ∈ BIG := bi (sin_2 _ (List.mem_map.mpr ⟨(yX0_hasState, 20), List.mem_of_getElem? (i := 6) rfl, rfl⟩)) rfl
theorem b_63 : Cond.code yX0_hasWord cX0_hasWord 2 (some .boolean) ∈ BIG := bi (tin_3 _ (List.mem_of_getElem? (i := 163) rfl)) rfl
theorem b_64 : Cond.instanceMethod yX0_hasWord ∈ BIG := bi (tin_3 _ (List.mem_of_getElem? (i := 162) rfl)) rfl
theorem b_65 : Cond.selects RX0 yX0_hasWord yX0_hasWord ∈ BIG := bi (sin_2 _ (List.mem_map.mpr ⟨(yX0_hasWord, 20), List.mem_of_getElem? (i := 9) rfl, rfl⟩)) rfl
theorem b_66 : Cond.code yX0_stands cX0_stands 1 (some .boolean) ∈ BIG := bi (tin_4 _ (List.mem_of_getElem? (i := 30) rfl)) rfl
theorem b_67 : Cond.instanceMethod yX0_stands ∈ BIG := bi (tin_4 _ (List.mem_of_getElem? (i := 29) rfl)) rfl
theorem b_68 : Cond.selects RX0 yX0_stands yX0_stands ∈ BIG := bi (sin_3 _ (List.mem_map.mpr ⟨(yX0_stands, 20), List.mem_of_getElem? (i := 6) rfl, rfl⟩)) rfl
theorem b_69 : Cond.laysFinal RX11 RX11 "reader" "LGentleLetters$DeskReader;" ∈ BIG := bi (tin_2 _ (List.mem_of_getElem? (i := 168) rfl)) rfl
theorem b_70 : Cond.laysFinal RX11 RX11 "desk" "LGentleLetters$Desk;" ∈ BIG := bi (tin_2 _ (List.mem_of_getElem? (i := 170) rfl)) rfl
theorem b_71 : Cond.laysFinal RX11 RX11 "images" "[LGentleLetters$Desk;" ∈ BIG := bi (tin_2 _ (List.mem_of_getElem? (i := 172) rfl)) rfl
theorem b_72 : Cond.laysFinal RX11 RX11 "imaged" "[Z" ∈ BIG := bi (tin_2 _ (List.mem_of_getElem? (i := 174) rfl)) rfl
theorem b_73 : Cond.laysFinal RX11 RX11 "rows" "[LGentleLetters$Row;" ∈ BIG := bi (tin_2 _ (List.mem_of_getElem? (i := 176) rfl)) rfl
theorem b_74 : Cond.laysFinal RX11 RX11 "week" "LGentleLetters$Week;" ∈ BIG := bi (tin_2 _ (List.mem_of_getElem? (i := 178) rfl)) rfl
theorem b_75 : Cond.laysFinal RX11 RX11 "mind" "LGentleLetters$Mind;" ∈ BIG := bi (tin_2 _ (List.mem_of_getElem? (i := 180) rfl)) rfl
theorem b_76 : Cond.laysFinal RX11 RX11 "reach" "LGentleLetters$Reach;" ∈ BIG := bi (tin_2 _ (List.mem_of_getElem? (i := 182) rfl)) rfl
theorem b_77 : Cond.laysFinal RX11 RX11 "planner" "LGentleLetters$Planner;" ∈ BIG := bi (tin_2 _ (List.mem_of_getElem? (i := 184) rfl)) rfl
theorem b_78 : Cond.laysFinal RX11 RX11 "risks" "LGentleLetters$Risks;" ∈ BIG := bi (tin_2 _ (List.mem_of_getElem? (i := 186) rfl)) rfl
theorem b_79 : Cond.laysFinal RX11 RX11 "letters" "LGentleLetters$Letters;" ∈ BIG := bi (tin_2 _ (List.mem_of_getElem? (i := 188) rfl)) rfl
theorem b_80 : Cond.lays RX0 RX0 "states" "I" ∈ BIG := bi (tin_1 _ (List.mem_of_getElem? (i := 165) rfl)) rfl
theorem b_81 : Cond.lays RX0 RX0 "really" "I" ∈ BIG := bi (tin_1 _ (List.mem_of_getElem? (i := 167) rfl)) rfl
theorem b_82 : Cond.lays RX0 RX0 "days" "I" ∈ BIG := bi (tin_1 _ (List.mem_of_getElem? (i := 169) rfl)) rfl
theorem b_83 : Cond.lays RX0 RX0 "heal" "I" ∈ BIG := bi (tin_1 _ (List.mem_of_getElem? (i := 171) rfl)) rfl
theorem b_84 : Cond.lays RX0 RX0 "leak" "I" ∈ BIG := bi (tin_1 _ (List.mem_of_getElem? (i := 173) rfl)) rfl
theorem b_85 : Cond.lays RX0 RX0 "lines" "I" ∈ BIG := bi (tin_1 _ (List.mem_of_getElem? (i := 175) rfl)) rfl
theorem b_86 : Cond.lays RX0 RX0 "hearers" "I" ∈ BIG := bi (tin_1 _ (List.mem_of_getElem? (i := 177) rfl)) rfl
theorem b_87 : Cond.lays RX0 RX0 "words" "I" ∈ BIG := bi (tin_1 _ (List.mem_of_getElem? (i := 179) rfl)) rfl
theorem b_88 : Cond.lays RX0 RX0 "plans" "I" ∈ BIG := bi (tin_1 _ (List.mem_of_getElem? (i := 181) rfl)) rfl
theorem b_89 : Cond.lays RX0 RX0 "news" "I" ∈ BIG := bi (tin_1 _ (List.mem_of_getElem? (i := 183) rfl)) rfl
theorem b_90 : Cond.laysFinal RX0 RX0 "grades" "[I" ∈ BIG := bi (tin_1 _ (List.mem_of_getElem? (i := 185) rfl)) rfl
theorem b_91 : Cond.laysFinal RX0 RX0 "thoughts" "[I" ∈ BIG := bi (tin_1 _ (List.mem_of_getElem? (i := 187) rfl)) rfl
theorem b_92 : Cond.laysFinal RX0 RX0 "reckonings" "[I" ∈ BIG := bi (tin_1 _ (List.mem_of_getElem? (i := 189) rfl)) rfl
theorem b_93 : Cond.laysFinal RX0 RX0 "told" "[I" ∈ BIG := bi (tin_1 _ (List.mem_of_getElem? (i := 191) rfl)) rfl
theorem b_94 : Cond.laysFinal RX0 RX0 "shames" "[I" ∈ BIG := bi (tin_1 _ (List.mem_of_getElem? (i := 193) rfl)) rfl
theorem b_95 : Cond.laysFinal RX0 RX0 "meanings" "[I" ∈ BIG := bi (tin_1 _ (List.mem_of_getElem? (i := 195) rfl)) rfl
theorem b_96 : Cond.laysFinal RX0 RX0 "planSizes" "[I" ∈ BIG := bi (tin_1 _ (List.mem_of_getElem? (i := 197) rfl)) rfl
theorem b_97 : Cond.laysFinal RX0 RX0 "planWords" "[I" ∈ BIG := bi (tin_1 _ (List.mem_of_getElem? (i := 199) rfl)) rfl
theorem b_98 : Cond.laysFinal RX0 RX0 "tidings" "[I" ∈ BIG := bi (tin_1 _ (List.mem_of_getElem? (i := 201) rfl)) rfl
theorem b_99 : Cond.laysFinal RX0 RX0 "log" "LGentleLetters$Log;" ∈ BIG := bi (tin_1 _ (List.mem_of_getElem? (i := 203) rfl)) rfl
theorem m_yX11_feelWeek : MV yX11_feelWeek cX11_feelWeek 4 (some .int) 2 := ⟨b_24, b_25, b_26, b_27, by decide +kernel⟩
theorem m_yX11_isSeed : MS yX11_isSeed cX11_isSeed 1 (some .boolean) 1 := ⟨b_28, b_29, b_27, by decide +kernel⟩
theorem m_yX11_isSlot : MS yX11_isSlot cX11_isSlot 1 (some .boolean) 1 := ⟨b_30, b_31, b_27, by decide +kernel⟩
theorem m_yX11_orderWeek : MV yX11_orderWeek cX11_orderWeek 4 (some .int) 2 := ⟨b_32, b_33, b_34, b_27, by decide +kernel⟩
theorem m_yX11_reckonWeek : MV yX11_reckonWeek cX11_reckonWeek 4 (some .int) 2 := ⟨b_35, b_36, b_37, b_27, by decide +kernel⟩
theorem m_yX11_takeWeek : MV yX11_takeWeek cX11_takeWeek 3 (some .int) 1 := ⟨b_38, b_39, b_40, b_27, by decide +kernel⟩
theorem m_yX11_wordOfBest : MV yX11_wordOfBest cX11_wordOfBest 5 (some .int) 4 := ⟨b_41, b_42, b_43, b_27, by decide +kernel⟩
theorem m_yX0_everything : MV yX0_everything cX0_everything 1 (some .int) 0 := ⟨b_44, b_45, b_46, b_47, by decide +kernel⟩
theorem m_yX0_hasBelief : MV yX0_hasBelief cX0_hasBelief 2 (some .boolean) 1 := ⟨b_48, b_49, b_50, b_47, by decide +kernel⟩
theorem m_yX0_hasHearer : MV yX0_hasHearer cX0_hasHearer 2 (some .boolean) 1 := ⟨b_51, b_52, b_53, b_47, by decide +kernel⟩
theorem m_yX0_hasNews : MV yX0_hasNews cX0_hasNews 2 (some .boolean) 1 := ⟨b_54, b_55, b_56, b_47, by decide +kernel⟩
theorem m_yX0_hasPlan : MV yX0_hasPlan cX0_hasPlan 2 (some .boolean) 1 := ⟨b_57, b_58, b_59, b_47, by decide +kernel⟩
theorem m_yX0_hasState : MV yX0_hasState cX0_hasState 2 (some .boolean) 1 := ⟨b_60, b_61, b_62, b_47, by decide +kernel⟩
theorem m_yX0_hasWord : MV yX0_hasWord cX0_hasWord 2 (some .boolean) 1 := ⟨b_63, b_64, b_65, b_47, by decide +kernel⟩
theorem m_yX0_stands : MV yX0_stands cX0_stands 1 (some .boolean) 0 := ⟨b_66, b_67, b_68, b_47, by decide +kernel⟩
theorem i_X11 : ∀ w ∈ u_ws RX11 TX11 11, w ∈ BIG := fun w hw => by
  obtain ⟨k, hk, rfl⟩ := List.mem_map.mp hw
  have hk := List.mem_range.mp hk
  match k, hk with
  | 0, _ => exact b_69
  | 1, _ => exact b_70
  | 2, _ => exact b_71
  | 3, _ => exact b_72
  | 4, _ => exact b_73
  | 5, _ => exact b_74
  | 6, _ => exact b_75
  | 7, _ => exact b_76
  | 8, _ => exact b_77
  | 9, _ => exact b_78
  | 10, _ => exact b_79
  | k + 11, hk => exact absurd hk (by omega)
theorem i_X0 : ∀ w ∈ u_ws RX0 TX0 20, w ∈ BIG := fun w hw => by
  obtain ⟨k, hk, rfl⟩ := List.mem_map.mp hw
  have hk := List.mem_range.mp hk
  match k, hk with
  | 0, _ => exact b_80
  | 1, _ => exact b_81
  | 2, _ => exact b_82
  | 3, _ => exact b_83
  | 4, _ => exact b_84
  | 5, _ => exact b_85
  | 6, _ => exact b_86
  | 7, _ => exact b_87
  | 8, _ => exact b_88
  | 9, _ => exact b_89
  | 10, _ => exact b_90
  | 11, _ => exact b_91
  | 12, _ => exact b_92
  | 13, _ => exact b_93
  | 14, _ => exact b_94
  | 15, _ => exact b_95
  | 16, _ => exact b_96
  | 17, _ => exact b_97
  | 18, _ => exact b_98
  | 19, _ => exact b_99
  | k + 20, hk => exact absurd hk (by omega)
