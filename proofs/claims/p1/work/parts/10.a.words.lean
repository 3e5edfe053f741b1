theorem tin_1 : ∀ w ∈ tables_1_1, w ∈ lw_tbl := fun w h => List.mem_append_right (k2_sels lw_privs) (show w ∈ tables_1 from List.mem_append_left _ h)
theorem tin_2 : ∀ w ∈ tables_1_2, w ∈ lw_tbl := fun w h => List.mem_append_right (k2_sels lw_privs) (show w ∈ tables_1 from List.mem_append_right _ (List.mem_append_left _ h))
theorem tin_3 : ∀ w ∈ tables_1_3, w ∈ lw_tbl := fun w h => List.mem_append_right (k2_sels lw_privs) (show w ∈ tables_1 from List.mem_append_right _ (List.mem_append_right _ (List.mem_append_left _ h)))
theorem tin_4 : ∀ w ∈ tables_1_4, w ∈ lw_tbl := fun w h => List.mem_append_right (k2_sels lw_privs) (show w ∈ tables_1 from List.mem_append_right _ (List.mem_append_right _ (List.mem_append_right _ (List.mem_append_left _ h))))
theorem tin_5 : ∀ w ∈ tables_1_5, w ∈ lw_tbl := fun w h => List.mem_append_right (k2_sels lw_privs) (show w ∈ tables_1 from List.mem_append_right _ (List.mem_append_right _ (List.mem_append_right _ (List.mem_append_right _ (List.mem_append_left _ h)))))
theorem tin_6 : ∀ w ∈ tables_1_6, w ∈ lw_tbl := fun w h => List.mem_append_right (k2_sels lw_privs) (show w ∈ tables_1 from List.mem_append_right _ (List.mem_append_right _ (List.mem_append_right _ (List.mem_append_right _ (List.mem_append_right _ (List.mem_append_left _ h))))))
theorem tin_7 : ∀ w ∈ tables_1_7, w ∈ lw_tbl := fun w h => List.mem_append_right (k2_sels lw_privs) (show w ∈ tables_1 from List.mem_append_right _ (List.mem_append_right _ (List.mem_append_right _ (List.mem_append_right _ (List.mem_append_right _ (List.mem_append_right _ (List.mem_append_left _ h)))))))
theorem tin_8 : ∀ w ∈ tables_1_8, w ∈ lw_tbl := fun w h => List.mem_append_right (k2_sels lw_privs) (show w ∈ tables_1 from List.mem_append_right _ (List.mem_append_right _ (List.mem_append_right _ (List.mem_append_right _ (List.mem_append_right _ (List.mem_append_right _ (List.mem_append_right _ (List.mem_append_left _ h))))))))
theorem tin_9 : ∀ w ∈ tables_1_9, w ∈ lw_tbl := fun w h => List.mem_append_right (k2_sels lw_privs) (show w ∈ tables_1 from List.mem_append_right _ (List.mem_append_right _ (List.mem_append_right _ (List.mem_append_right _ (List.mem_append_right _ (List.mem_append_right _ (List.mem_append_right _ (List.mem_append_right _ (h)))))))))
theorem sin_1 : ∀ w ∈ k2_sels lw_privs_1, w ∈ lw_tbl := fun w hw => List.mem_append_left tables_1 (show w ∈ k2_sels lw_privs from by
  obtain ⟨q, h, hq⟩ := List.mem_map.mp hw
  exact List.mem_map.mpr ⟨q, (show q ∈ lw_privs from List.mem_append_left _ h), hq⟩)
theorem sin_2 : ∀ w ∈ k2_sels lw_privs_2, w ∈ lw_tbl := fun w hw => List.mem_append_left tables_1 (show w ∈ k2_sels lw_privs from by
  obtain ⟨q, h, hq⟩ := List.mem_map.mp hw
  exact List.mem_map.mpr ⟨q, (show q ∈ lw_privs from List.mem_append_right _ (List.mem_append_left _ h)), hq⟩)
theorem sin_3 : ∀ w ∈ k2_sels lw_privs_3, w ∈ lw_tbl := fun w hw => List.mem_append_left tables_1 (show w ∈ k2_sels lw_privs from by
  obtain ⟨q, h, hq⟩ := List.mem_map.mp hw
  exact List.mem_map.mpr ⟨q, (show q ∈ lw_privs from List.mem_append_right _ (List.mem_append_right _ (List.mem_append_left _ h))), hq⟩)
theorem sin_4 : ∀ w ∈ k2_sels lw_privs_4, w ∈ lw_tbl := fun w hw => List.mem_append_left tables_1 (show w ∈ k2_sels lw_privs from by
  obtain ⟨q, h, hq⟩ := List.mem_map.mp hw
  exact List.mem_map.mpr ⟨q, (show q ∈ lw_privs from List.mem_append_right _ (List.mem_append_right _ (List.mem_append_right _ (List.mem_append_left _ h)))), hq⟩)
theorem sin_5 : ∀ w ∈ k2_sels lw_privs_5, w ∈ lw_tbl := fun w hw => List.mem_append_left tables_1 (show w ∈ k2_sels lw_privs from by
  obtain ⟨q, h, hq⟩ := List.mem_map.mp hw
  exact List.mem_map.mpr ⟨q, (show q ∈ lw_privs from List.mem_append_right _ (List.mem_append_right _ (List.mem_append_right _ (List.mem_append_right _ (List.mem_append_left _ h))))), hq⟩)
theorem sin_6 : ∀ w ∈ k2_sels lw_privs_6, w ∈ lw_tbl := fun w hw => List.mem_append_left tables_1 (show w ∈ k2_sels lw_privs from by
  obtain ⟨q, h, hq⟩ := List.mem_map.mp hw
  exact List.mem_map.mpr ⟨q, (show q ∈ lw_privs from List.mem_append_right _ (List.mem_append_right _ (List.mem_append_right _ (List.mem_append_right _ (List.mem_append_right _ (List.mem_append_left _ h)))))), hq⟩)
theorem sin_7 : ∀ w ∈ k2_sels lw_privs_7, w ∈ lw_tbl := fun w hw => List.mem_append_left tables_1 (show w ∈ k2_sels lw_privs from by
  obtain ⟨q, h, hq⟩ := List.mem_map.mp hw
  exact List.mem_map.mpr ⟨q, (show q ∈ lw_privs from List.mem_append_right _ (List.mem_append_right _ (List.mem_append_right _ (List.mem_append_right _ (List.mem_append_right _ (List.mem_append_right _ (List.mem_append_left _ h))))))), hq⟩)
theorem sin_8 : ∀ w ∈ k2_sels lw_privs_8, w ∈ lw_tbl := fun w hw => List.mem_append_left tables_1 (show w ∈ k2_sels lw_privs from by
  obtain ⟨q, h, hq⟩ := List.mem_map.mp hw
  exact List.mem_map.mpr ⟨q, (show q ∈ lw_privs from List.mem_append_right _ (List.mem_append_right _ (List.mem_append_right _ (List.mem_append_right _ (List.mem_append_right _ (List.mem_append_right _ (List.mem_append_right _ (List.mem_append_left _ h)))))))), hq⟩)
theorem sin_9 : ∀ w ∈ k2_sels lw_privs_9, w ∈ lw_tbl := fun w hw => List.mem_append_left tables_1 (show w ∈ k2_sels lw_privs from by
  obtain ⟨q, h, hq⟩ := List.mem_map.mp hw
  exact List.mem_map.mpr ⟨q, (show q ∈ lw_privs from List.mem_append_right _ (List.mem_append_right _ (List.mem_append_right _ (List.mem_append_right _ (List.mem_append_right _ (List.mem_append_right _ (List.mem_append_right _ (List.mem_append_right _ (List.mem_append_left _ h))))))))), hq⟩)
theorem sin_10 : ∀ w ∈ k2_sels lw_privs_10, w ∈ lw_tbl := fun w hw => List.mem_append_left tables_1 (show w ∈ k2_sels lw_privs from by
  obtain ⟨q, h, hq⟩ := List.mem_map.mp hw
  exact List.mem_map.mpr ⟨q, (show q ∈ lw_privs from List.mem_append_right _ (List.mem_append_right _ (List.mem_append_right _ (List.mem_append_right _ (List.mem_append_right _ (List.mem_append_right _ (List.mem_append_right _ (List.mem_append_right _ (List.mem_append_right _ (List.mem_append_left _ h)))))))))), hq⟩)
theorem sin_11 : ∀ w ∈ k2_sels lw_privs_11, w ∈ lw_tbl := fun w hw => List.mem_append_left tables_1 (show w ∈ k2_sels lw_privs from by
  obtain ⟨q, h, hq⟩ := List.mem_map.mp hw
  exact List.mem_map.mpr ⟨q, (show q ∈ lw_privs from List.mem_append_right _ (List.mem_append_right _ (List.mem_append_right _ (List.mem_append_right _ (List.mem_append_right _ (List.mem_append_right _ (List.mem_append_right _ (List.mem_append_right _ (List.mem_append_right _ (List.mem_append_right _ (h))))))))))), hq⟩)
theorem b_0 : Cond.fieldLink RX0 46 "GentleLetters$Desk" "states" "I" ∈ BIG := bi (tin_1 _ (List.mem_of_getElem? (i := 97) rfl)) rfl
theorem b_1 : Cond.fieldLink RX0 62 "GentleLetters$Desk" "lines" "I" ∈ BIG := bi (tin_1 _ (List.mem_of_getElem? (i := 116) rfl)) rfl
theorem b_2 : Cond.fieldLink RX0 53 "GentleLetters$Desk" "days" "I" ∈ BIG := bi (tin_1 _ (List.mem_of_getElem? (i := 105) rfl)) rfl
theorem b_3 : Cond.fieldLink RX0 65 "GentleLetters$Desk" "hearers" "I" ∈ BIG := bi (tin_1 _ (List.mem_of_getElem? (i := 119) rfl)) rfl
theorem b_4 : Cond.fieldLink RX0 68 "GentleLetters$Desk" "words" "I" ∈ BIG := bi (tin_1 _ (List.mem_of_getElem? (i := 122) rfl)) rfl
theorem b_5 : Cond.fieldLink RX0 71 "GentleLetters$Desk" "plans" "I" ∈ BIG := bi (tin_1 _ (List.mem_of_getElem? (i := 129) rfl)) rfl
theorem b_6 : Cond.fieldLink RX0 74 "GentleLetters$Desk" "news" "I" ∈ BIG := bi (tin_1 _ (List.mem_of_getElem? (i := 133) rfl)) rfl
theorem b_7 : Cond.methodLink RX0 100 yX0_everything ∈ BIG := bi (tin_3 _ (List.mem_of_getElem? (i := 200) rfl)) rfl
theorem b_8 : Cond.constant RX11 434 (2000000000) ∈ BIG := bi (tin_6 _ (List.mem_of_getElem? (i := 33) rfl)) rfl
theorem b_9 : Cond.methodLink RX11 398 yX11_isSlot ∈ BIG := bi (tin_4 _ (List.mem_of_getElem? (i := 24) rfl)) rfl
theorem b_10 : Cond.fieldLink RX11 19 "GentleLetters" "desk" "LGentleLetters$Desk;" ∈ BIG := bi (tin_2 _ (List.mem_of_getElem? (i := 158) rfl)) rfl
theorem b_11 : Cond.methodLinkNest RX11 245 yX0_stands RX11 ∈ nests := ne (tin_4 _ (List.mem_of_getElem? (i := 27) rfl)) rfl
theorem b_12 : Cond.methodLinkNest RX11 122 yX0_hasHearer RX11 ∈ nests := ne (tin_3 _ (List.mem_of_getElem? (i := 148) rfl)) rfl
theorem b_13 : Cond.methodLinkNest RX11 114 yX0_hasState RX11 ∈ nests := ne (tin_3 _ (List.mem_of_getElem? (i := 140) rfl)) rfl
theorem b_14 : Cond.methodLinkNest RX11 132 yX0_hasWord RX11 ∈ nests := ne (tin_3 _ (List.mem_of_getElem? (i := 160) rfl)) rfl
theorem b_15 : Cond.methodLinkNest RX11 144 yX0_hasPlan RX11 ∈ nests := ne (tin_3 _ (List.mem_of_getElem? (i := 172) rfl)) rfl
theorem b_16 : Cond.methodLinkNest RX11 150 yX0_hasNews RX11 ∈ nests := ne (tin_3 _ (List.mem_of_getElem? (i := 184) rfl)) rfl
theorem b_17 : Cond.methodLinkNest RX11 159 yX0_hasBelief RX11 ∈ nests := ne (tin_3 _ (List.mem_of_getElem? (i := 196) rfl)) rfl
theorem b_18 : Cond.methodLink RX11 183 yX11_takeWeek ∈ BIG := bi (tin_4 _ (List.mem_of_getElem? (i := 20) rfl)) rfl
theorem b_19 : Cond.methodLink RX11 191 yX11_feelWeek ∈ BIG := bi (tin_4 _ (List.mem_of_getElem? (i := 54) rfl)) rfl
theorem b_20 : Cond.methodLink RX11 216 yX11_orderWeek ∈ BIG := bi (tin_4 _ (List.mem_of_getElem? (i := 129) rfl)) rfl
theorem b_21 : Cond.methodLink RX11 241 yX11_wordOfBest ∈ BIG := bi (tin_4 _ (List.mem_of_getElem? (i := 225) rfl)) rfl
theorem b_22 : Cond.methodLink RX11 305 yX11_reckonWeek ∈ BIG := bi (tin_5 _ (List.mem_of_getElem? (i := 144) rfl)) rfl
theorem b_23 : Cond.methodLink RX11 371 yX11_isSeed ∈ BIG := bi (tin_6 _ (List.mem_of_getElem? (i := 30) rfl)) rfl
theorem b_24 : Cond.code yX11_feelWeek cX11_feelWeek 4 (some .int) ∈ BIG := bi (tin_4 _ (List.mem_of_getElem? (i := 57) rfl)) rfl
theorem b_25 : Cond.instanceMethod yX11_feelWeek ∈ BIG := bi (tin_4 _ (List.mem_of_getElem? (i := 56) rfl)) rfl
theorem b_26 : Cond.selects RX11 yX11_feelWeek yX11_feelWeek ∈ BIG := bi (sin_3 _ (List.mem_map.mpr ⟨(yX11_feelWeek, 11), List.mem_of_getElem? (i := 11) rfl, rfl⟩)) rfl
theorem b_27 : Cond.initialized RX11 ∈ BIG := bi (tin_1 _ (List.mem_of_getElem? (i := 1) rfl)) rfl
theorem b_28 : Cond.code yX11_isSeed cX11_isSeed 1 (some .boolean) ∈ BIG := bi (tin_6 _ (List.mem_of_getElem? (i := 32) rfl)) rfl
theorem b_29 : Cond.static yX11_isSeed ∈ BIG := bi (tin_6 _ (List.mem_of_getElem? (i := 31) rfl)) rfl
theorem b_30 : Cond.code yX11_isSlot cX11_isSlot 1 (some .boolean) ∈ BIG := bi (tin_4 _ (List.mem_of_getElem? (i := 26) rfl)) rfl
theorem b_31 : Cond.static yX11_isSlot ∈ BIG := bi (tin_4 _ (List.mem_of_getElem? (i := 25) rfl)) rfl
theorem b_32 : Cond.code yX11_orderWeek cX11_orderWeek 4 (some .int) ∈ BIG := bi (tin_4 _ (List.mem_of_getElem? (i := 132) rfl)) rfl
theorem b_33 : Cond.instanceMethod yX11_orderWeek ∈ BIG := bi (tin_4 _ (List.mem_of_getElem? (i := 131) rfl)) rfl
theorem b_34 : Cond.selects RX11 yX11_orderWeek yX11_orderWeek ∈ BIG := bi (sin_4 _ (List.mem_map.mpr ⟨(yX11_orderWeek, 11), List.mem_of_getElem? (i := 6) rfl, rfl⟩)) rfl
theorem b_35 : Cond.code yX11_reckonWeek cX11_reckonWeek 4 (some .int) ∈ BIG := bi (tin_5 _ (List.mem_of_getElem? (i := 147) rfl)) rfl
theorem b_36 : Cond.instanceMethod yX11_reckonWeek ∈ BIG := bi (tin_5 _ (List.mem_of_getElem? (i := 146) rfl)) rfl
theorem b_37 : Cond.selects RX11 yX11_reckonWeek yX11_reckonWeek ∈ BIG := bi (sin_6 _ (List.mem_map.mpr ⟨(yX11_reckonWeek, 11), List.mem_of_getElem? (i := 1) rfl, rfl⟩)) rfl
theorem b_38 : Cond.code yX11_takeWeek cX11_takeWeek 3 (some .int) ∈ BIG := bi (tin_4 _ (List.mem_of_getElem? (i := 23) rfl)) rfl
theorem b_39 : Cond.instanceMethod yX11_takeWeek ∈ BIG := bi (tin_4 _ (List.mem_of_getElem? (i := 22) rfl)) rfl
theorem b_40 : Cond.selects RX11 yX11_takeWeek yX11_takeWeek ∈ BIG := bi (sin_3 _ (List.mem_map.mpr ⟨(yX11_takeWeek, 11), List.mem_of_getElem? (i := 5) rfl, rfl⟩)) rfl
theorem b_41 : Cond.code yX11_wordOfBest cX11_wordOfBest 5 (some .int) ∈ BIG := bi (tin_4 _ (List.mem_of_getElem? (i := 228) rfl)) rfl
theorem b_42 : Cond.instanceMethod yX11_wordOfBest ∈ BIG := bi (tin_4 _ (List.mem_of_getElem? (i := 227) rfl)) rfl
theorem b_43 : Cond.selects RX11 yX11_wordOfBest yX11_wordOfBest ∈ BIG := bi (sin_5 _ (List.mem_map.mpr ⟨(yX11_wordOfBest, 11), List.mem_of_getElem? (i := 5) rfl, rfl⟩)) rfl
theorem b_44 : Cond.code yX0_everything cX0_everything 1 (some .int) ∈ BIG := bi (tin_3 _ (List.mem_of_getElem? (i := 203) rfl)) rfl
theorem b_45 : Cond.instanceMethod yX0_everything ∈ BIG := bi (tin_3 _ (List.mem_of_getElem? (i := 202) rfl)) rfl
theorem b_46 : Cond.selects RX0 yX0_everything yX0_everything ∈ BIG := bi (sin_2 _ (List.mem_map.mpr ⟨(yX0_everything, 20), List.mem_of_getElem? (i := 15) rfl, rfl⟩)) rfl
theorem b_47 : Cond.initialized RX0 ∈ BIG := bi (tin_1 _ (List.mem_of_getElem? (i := 4) rfl)) rfl
theorem b_48 : Cond.code yX0_hasBelief cX0_hasBelief 2 (some .boolean) ∈ BIG := bi (tin_3 _ (List.mem_of_getElem? (i := 199) rfl)) rfl
theorem b_49 : Cond.instanceMethod yX0_hasBelief ∈ BIG := bi (tin_3 _ (List.mem_of_getElem? (i := 198) rfl)) rfl
theorem b_50 : Cond.selects RX0 yX0_hasBelief yX0_hasBelief ∈ BIG := bi (sin_2 _ (List.mem_map.mpr ⟨(yX0_hasBelief, 20), List.mem_of_getElem? (i := 14) rfl, rfl⟩)) rfl
theorem b_51 : Cond.code yX0_hasHearer cX0_hasHearer 2 (some .boolean) ∈ BIG := bi (tin_3 _ (List.mem_of_getElem? (i := 151) rfl)) rfl
theorem b_52 : Cond.instanceMethod yX0_hasHearer ∈ BIG := bi (tin_3 _ (List.mem_of_getElem? (i := 150) rfl)) rfl
theorem b_53 : Cond.selects RX0 yX0_hasHearer yX0_hasHearer ∈ BIG := bi (sin_2 _ (List.mem_map.mpr ⟨(yX0_hasHearer, 20), List.mem_of_getElem? (i := 7) rfl, rfl⟩)) rfl
theorem b_54 : Cond.code yX0_hasNews cX0_hasNews 2 (some .boolean) ∈ BIG := bi (tin_3 _ (List.mem_of_getElem? (i := 187) rfl)) rfl
theorem b_55 : Cond.instanceMethod yX0_hasNews ∈ BIG := bi (tin_3 _ (List.mem_of_getElem? (i := 186) rfl)) rfl
theorem b_56 : Cond.selects RX0 yX0_hasNews yX0_hasNews ∈ BIG := bi (sin_2 _ (List.mem_map.mpr ⟨(yX0_hasNews, 20), List.mem_of_getElem? (i := 13) rfl, rfl⟩)) rfl
theorem b_57 : Cond.code yX0_hasPlan cX0_hasPlan 2 (some .boolean) ∈ BIG := bi (tin_3 _ (List.mem_of_getElem? (i := 175) rfl)) rfl
theorem b_58 : Cond.instanceMethod yX0_hasPlan ∈ BIG := bi (tin_3 _ (List.mem_of_getElem? (i := 174) rfl)) rfl
theorem b_59 : Cond.selects RX0 yX0_hasPlan yX0_hasPlan ∈ BIG := bi (sin_2 _ (List.mem_map.mpr ⟨(yX0_hasPlan, 20), List.mem_of_getElem? (i := 11) rfl, rfl⟩)) rfl
theorem b_60 : Cond.code yX0_hasState cX0_hasState 2 (some .boolean) ∈ BIG := bi (tin_3 _ (List.mem_of_getElem? (i := 143) rfl)) rfl
theorem b_61 : Cond.instanceMethod yX0_hasState ∈ BIG := bi (tin_3 _ (List.mem_of_getElem? (i := 142) rfl)) rfl
theorem b_62 : Cond.selects RX0 yX0_hasState yX0_hasState ∈ BIG := bi (sin_2 _ (List.mem_map.mpr ⟨(yX0_hasState, 20), List.mem_of_getElem? (i := 6) rfl, rfl⟩)) rfl
theorem b_63 : Cond.code yX0_hasWord cX0_hasWord 2 (some .boolean) ∈ BIG := bi (tin_3 _ (List.mem_of_getElem? (i := 163) rfl)) rfl
theorem b_64 : Cond.instanceMethod yX0_hasWord ∈ BIG := bi (tin_3 _ (List.mem_of_getElem? (i := 162) rfl)) rfl
theorem b_65 : Cond.selects RX0 yX0_hasWord yX0_hasWord ∈ BIG := bi (sin_2 _ (List.mem_map.mpr ⟨(yX0_hasWord, 20), List.mem_of_getElem? (i := 9) rfl, rfl⟩)) rfl
theorem b_66 : Cond.code yX0_stands cX0_stands 1 (some .boolean) ∈ BIG := bi (tin_4 _ (List.mem_of_getElem? (i := 30) rfl)) rfl
theorem b_67 : Cond.instanceMethod yX0_stands ∈ BIG := bi (tin_4 _ (List.mem_of_getElem? (i := 29) rfl)) rfl
theorem b_68 : Cond.selects RX0 yX0_stands yX0_stands ∈ BIG := bi (sin_3 _ (List.mem_map.mpr ⟨(yX0_stands, 20), List.mem_of_getElem? (i := 6) rfl, rfl⟩)) rfl
theorem b_69 : Cond.laysFinal RX11 RX11 "reader" "LGentleLetters$DeskReader;" ∈ BIG := bi (tin_2 _ (List.mem_of_getElem? (i := 168) rfl)) rfl
theorem b_70 : Cond.laysFinal RX11 RX11 "desk" "LGentleLetters$Desk;" ∈ BIG := bi (tin_2 _ (List.mem_of_getElem? (i := 170) rfl)) rfl
theorem b_71 : Cond.laysFinal RX11 RX11 "images" "[LGentleLetters$Desk;" ∈ BIG := bi (tin_2 _ (List.mem_of_getElem? (i := 172) rfl)) rfl
theorem b_72 : Cond.laysFinal RX11 RX11 "imaged" "[Z" ∈ BIG := bi (tin_2 _ (List.mem_of_getElem? (i := 174) rfl)) rfl
theorem b_73 : Cond.laysFinal RX11 RX11 "rows" "[LGentleLetters$Row;" ∈ BIG := bi (tin_2 _ (List.mem_of_getElem? (i := 176) rfl)) rfl
theorem b_74 : Cond.laysFinal RX11 RX11 "week" "LGentleLetters$Week;" ∈ BIG := bi (tin_2 _ (List.mem_of_getElem? (i := 178) rfl)) rfl
theorem b_75 : Cond.laysFinal RX11 RX11 "mind" "LGentleLetters$Mind;" ∈ BIG := bi (tin_2 _ (List.mem_of_getElem? (i := 180) rfl)) rfl
theorem b_76 : Cond.laysFinal RX11 RX11 "reach" "LGentleLetters$Reach;" ∈ BIG := bi (tin_2 _ (List.mem_of_getElem? (i := 182) rfl)) rfl
theorem b_77 : Cond.laysFinal RX11 RX11 "planner" "LGentleLetters$Planner;" ∈ BIG := bi (tin_2 _ (List.mem_of_getElem? (i := 184) rfl)) rfl
theorem b_78 : Cond.laysFinal RX11 RX11 "risks" "LGentleLetters$Risks;" ∈ BIG := bi (tin_2 _ (List.mem_of_getElem? (i := 186) rfl)) rfl
theorem b_79 : Cond.laysFinal RX11 RX11 "letters" "LGentleLetters$Letters;" ∈ BIG := bi (tin_2 _ (List.mem_of_getElem? (i := 188) rfl)) rfl
theorem b_80 : Cond.lays RX0 RX0 "states" "I" ∈ BIG := bi (tin_1 _ (List.mem_of_getElem? (i := 165) rfl)) rfl
theorem b_81 : Cond.lays RX0 RX0 "really" "I" ∈ BIG := bi (tin_1 _ (List.mem_of_getElem? (i := 167) rfl)) rfl
theorem b_82 : Cond.lays RX0 RX0 "days" "I" ∈ BIG := bi (tin_1 _ (List.mem_of_getElem? (i := 169) rfl)) rfl
theorem b_83 : Cond.lays RX0 RX0 "heal" "I" ∈ BIG := bi (tin_1 _ (List.mem_of_getElem? (i := 171) rfl)) rfl
theorem b_84 : Cond.lays RX0 RX0 "leak" "I" ∈ BIG := bi (tin_1 _ (List.mem_of_getElem? (i := 173) rfl)) rfl
theorem b_85 : Cond.lays RX0 RX0 "lines" "I" ∈ BIG := bi (tin_1 _ (List.mem_of_getElem? (i := 175) rfl)) rfl
theorem b_86 : Cond.lays RX0 RX0 "hearers" "I" ∈ BIG := bi (tin_1 _ (List.mem_of_getElem? (i := 177) rfl)) rfl
theorem b_87 : Cond.lays RX0 RX0 "words" "I" ∈ BIG := bi (tin_1 _ (List.mem_of_getElem? (i := 179) rfl)) rfl
theorem b_88 : Cond.lays RX0 RX0 "plans" "I" ∈ BIG := bi (tin_1 _ (List.mem_of_getElem? (i := 181) rfl)) rfl
theorem b_89 : Cond.lays RX0 RX0 "news" "I" ∈ BIG := bi (tin_1 _ (List.mem_of_getElem? (i := 183) rfl)) rfl
theorem b_90 : Cond.laysFinal RX0 RX0 "grades" "[I" ∈ BIG := bi (tin_1 _ (List.mem_of_getElem? (i := 185) rfl)) rfl
theorem b_91 : Cond.laysFinal RX0 RX0 "thoughts" "[I" ∈ BIG := bi (tin_1 _ (List.mem_of_getElem? (i := 187) rfl)) rfl
theorem b_92 : Cond.laysFinal RX0 RX0 "reckonings" "[I" ∈ BIG := bi (tin_1 _ (List.mem_of_getElem? (i := 189) rfl)) rfl
theorem b_93 : Cond.laysFinal RX0 RX0 "told" "[I" ∈ BIG := bi (tin_1 _ (List.mem_of_getElem? (i := 191) rfl)) rfl
theorem b_94 : Cond.laysFinal RX0 RX0 "shames" "[I" ∈ BIG := bi (tin_1 _ (List.mem_of_getElem? (i := 193) rfl)) rfl
theorem b_95 : Cond.laysFinal RX0 RX0 "meanings" "[I" ∈ BIG := bi (tin_1 _ (List.mem_of_getElem? (i := 195) rfl)) rfl
theorem b_96 : Cond.laysFinal RX0 RX0 "planSizes" "[I" ∈ BIG := bi (tin_1 _ (List.mem_of_getElem? (i := 197) rfl)) rfl
theorem b_97 : Cond.laysFinal RX0 RX0 "planWords" "[I" ∈ BIG := bi (tin_1 _ (List.mem_of_getElem? (i := 199) rfl)) rfl
theorem b_98 : Cond.laysFinal RX0 RX0 "tidings" "[I" ∈ BIG := bi (tin_1 _ (List.mem_of_getElem? (i := 201) rfl)) rfl
theorem b_99 : Cond.laysFinal RX0 RX0 "log" "LGentleLetters$Log;" ∈ BIG := bi (tin_1 _ (List.mem_of_getElem? (i := 203) rfl)) rfl
theorem m_yX11_feelWeek : MV yX11_feelWeek cX11_feelWeek 4 (some .int) 2 := ⟨b_24, b_25, b_26, b_27, by decide +kernel⟩
theorem m_yX11_isSeed : MS yX11_isSeed cX11_isSeed 1 (some .boolean) 1 := ⟨b_28, b_29, b_27, by decide +kernel⟩
theorem m_yX11_isSlot : MS yX11_isSlot cX11_isSlot 1 (some .boolean) 1 := ⟨b_30, b_31, b_27, by decide +kernel⟩
theorem m_yX11_orderWeek : MV yX11_orderWeek cX11_orderWeek 4 (some .int) 2 := ⟨b_32, b_33, b_34, b_27, by decide +kernel⟩
theorem m_yX11_reckonWeek : MV yX11_reckonWeek cX11_reckonWeek 4 (some .int) 2 := ⟨b_35, b_36, b_37, b_27, by decide +kernel⟩
theorem m_yX11_takeWeek : MV yX11_takeWeek cX11_takeWeek 3 (some .int) 1 := ⟨b_38, b_39, b_40, b_27, by decide +kernel⟩
theorem m_yX11_wordOfBest : MV yX11_wordOfBest cX11_wordOfBest 5 (some .int) 4 := ⟨b_41, b_42, b_43, b_27, by decide +kernel⟩
theorem m_yX0_everything : MV yX0_everything cX0_everything 1 (some .int) 0 := ⟨b_44, b_45, b_46, b_47, by decide +kernel⟩
theorem m_yX0_hasBelief : MV yX0_hasBelief cX0_hasBelief 2 (some .boolean) 1 := ⟨b_48, b_49, b_50, b_47, by decide +kernel⟩
theorem m_yX0_hasHearer : MV yX0_hasHearer cX0_hasHearer 2 (some .boolean) 1 := ⟨b_51, b_52, b_53, b_47, by decide +kernel⟩
theorem m_yX0_hasNews : MV yX0_hasNews cX0_hasNews 2 (some .boolean) 1 := ⟨b_54, b_55, b_56, b_47, by decide +kernel⟩
theorem m_yX0_hasPlan : MV yX0_hasPlan cX0_hasPlan 2 (some .boolean) 1 := ⟨b_57, b_58, b_59, b_47, by decide +kernel⟩
theorem m_yX0_hasState : MV yX0_hasState cX0_hasState 2 (some .boolean) 1 := ⟨b_60, b_61, b_62, b_47, by decide +kernel⟩
theorem m_yX0_hasWord : MV yX0_hasWord cX0_hasWord 2 (some .boolean) 1 := ⟨b_63, b_64, b_65, b_47, by decide +kernel⟩
theorem m_yX0_stands : MV yX0_stands cX0_stands 1 (some .boolean) 0 := ⟨b_66, b_67, b_68, b_47, by decide +kernel⟩
theorem i_X11 : ∀ w ∈ u_ws RX11 TX11 11, w ∈ BIG := fun w hw => by
  obtain ⟨k, hk, rfl⟩ := List.mem_map.mp hw
  have hk := List.mem_range.mp hk
  match k, hk with
  | 0, _ => exact b_69
  | 1, _ => exact b_70
  | 2, _ => exact b_71
  | 3, _ => exact b_72
  | 4, _ => exact b_73
  | 5, _ => exact b_74
  | 6, _ => exact b_75
  | 7, _ => exact b_76
  | 8, _ => exact b_77
  | 9, _ => exact b_78
  | 10, _ => exact b_79
  | k + 11, hk => exact absurd hk (by omega)
theorem i_X0 : ∀ w ∈ u_ws RX0 TX0 20, w ∈ BIG := fun w hw => by
  obtain ⟨k, hk, rfl⟩ := List.mem_map.mp hw
  have hk := List.mem_range.mp hk
  match k, hk with
  | 0, _ => exact b_80
  | 1, _ => exact b_81
  | 2, _ => exact b_82
  | 3, _ => exact b_83
  | 4, _ => exact b_84
  | 5, _ => exact b_85
  | 6, _ => exact b_86
  | 7, _ => exact b_87
  | 8, _ => exact b_88
  | 9, _ => exact b_89
  | 10, _ => exact b_90
  | 11, _ => exact b_91
  | 12, _ => exact b_92
  | 13, _ => exact b_93
  | 14, _ => exact b_94
  | 15, _ => exact b_95
  | 16, _ => exact b_96
  | 17, _ => exact b_97
  | 18, _ => exact b_98
  | 19, _ => exact b_99
  | k + 20, hk => exact absurd hk (by omega)
theorem dX0_everything_0 : decode cX0_everything 0 = .ok (.iconst 1, 1) := by decide +kernel
theorem dX0_everything_1 : decode cX0_everything 1 = .ok (.aload_n 0, 1) := by decide +kernel
theorem dX0_everything_2 : decode cX0_everything 2 = .ok (.getfield 46, 3) := by decide +kernel
theorem dX0_everything_5 : decode cX0_everything 5 = .ok (.ishl, 1) := by decide +kernel
theorem dX0_everything_6 : decode cX0_everything 6 = .ok (.iconst 1, 1) := by decide +kernel
theorem dX0_everything_7 : decode cX0_everything 7 = .ok (.isub, 1) := by decide +kernel
theorem dX0_everything_8 : decode cX0_everything 8 = .ok (.ireturn, 1) := by decide +kernel
theorem dX0_hasBelief_0 : decode cX0_hasBelief 0 = .ok (.iload_n 1, 1) := by decide +kernel
theorem dX0_hasBelief_1 : decode cX0_hasBelief 1 = .ok (.iconst 1, 1) := by decide +kernel
theorem dX0_hasBelief_2 : decode cX0_hasBelief 2 = .ok (.if_icmp .lt 15, 3) := by decide +kernel
theorem dX0_hasBelief_5 : decode cX0_hasBelief 5 = .ok (.iload_n 1, 1) := by decide +kernel
theorem dX0_hasBelief_6 : decode cX0_hasBelief 6 = .ok (.aload_n 0, 1) := by decide +kernel
theorem dX0_hasBelief_7 : decode cX0_hasBelief 7 = .ok (.invokevirtual 100, 3) := by decide +kernel
theorem dX0_hasBelief_10 : decode cX0_hasBelief 10 = .ok (.if_icmp .gt 7, 3) := by decide +kernel
theorem dX0_hasBelief_17 : decode cX0_hasBelief 17 = .ok (.iconst 0, 1) := by decide +kernel
theorem dX0_hasBelief_18 : decode cX0_hasBelief 18 = .ok (.ireturn, 1) := by decide +kernel
theorem dX0_hasDay_0 : decode cX0_hasDay 0 = .ok (.iload_n 1, 1) := by decide +kernel
theorem dX0_hasDay_1 : decode cX0_hasDay 1 = .ok (.ifCond .lt 15, 3) := by decide +kernel
theorem dX0_hasDay_4 : decode cX0_hasDay 4 = .ok (.iload_n 1, 1) := by decide +kernel
theorem dX0_hasDay_5 : decode cX0_hasDay 5 = .ok (.aload_n 0, 1) := by decide +kernel
theorem dX0_hasDay_6 : decode cX0_hasDay 6 = .ok (.getfield 53, 3) := by decide +kernel
theorem dX0_hasDay_9 : decode cX0_hasDay 9 = .ok (.if_icmp .ge 7, 3) := by decide +kernel
theorem dX0_hasDay_16 : decode cX0_hasDay 16 = .ok (.iconst 0, 1) := by decide +kernel
theorem dX0_hasDay_17 : decode cX0_hasDay 17 = .ok (.ireturn, 1) := by decide +kernel
theorem dX0_hasHearer_0 : decode cX0_hasHearer 0 = .ok (.iload_n 1, 1) := by decide +kernel
theorem dX0_hasHearer_1 : decode cX0_hasHearer 1 = .ok (.ifCond .lt 15, 3) := by decide +kernel
theorem dX0_hasHearer_4 : decode cX0_hasHearer 4 = .ok (.iload_n 1, 1) := by decide +kernel
theorem dX0_hasHearer_5 : decode cX0_hasHearer 5 = .ok (.aload_n 0, 1) := by decide +kernel
theorem dX0_hasHearer_6 : decode cX0_hasHearer 6 = .ok (.getfield 65, 3) := by decide +kernel
theorem dX0_hasHearer_9 : decode cX0_hasHearer 9 = .ok (.if_icmp .ge 7, 3) := by decide +kernel
theorem dX0_hasHearer_16 : decode cX0_hasHearer 16 = .ok (.iconst 0, 1) := by decide +kernel
theorem dX0_hasHearer_17 : decode cX0_hasHearer 17 = .ok (.ireturn, 1) := by decide +kernel
theorem dX0_hasNews_0 : decode cX0_hasNews 0 = .ok (.iload_n 1, 1) := by decide +kernel
theorem dX0_hasNews_1 : decode cX0_hasNews 1 = .ok (.ifCond .lt 15, 3) := by decide +kernel
theorem dX0_hasNews_4 : decode cX0_hasNews 4 = .ok (.iload_n 1, 1) := by decide +kernel
theorem dX0_hasNews_5 : decode cX0_hasNews 5 = .ok (.aload_n 0, 1) := by decide +kernel
theorem dX0_hasNews_6 : decode cX0_hasNews 6 = .ok (.getfield 74, 3) := by decide +kernel
theorem dX0_hasNews_9 : decode cX0_hasNews 9 = .ok (.if_icmp .ge 7, 3) := by decide +kernel
theorem dX0_hasNews_16 : decode cX0_hasNews 16 = .ok (.iconst 0, 1) := by decide +kernel
theorem dX0_hasNews_17 : decode cX0_hasNews 17 = .ok (.ireturn, 1) := by decide +kernel
theorem dX0_hasPlan_0 : decode cX0_hasPlan 0 = .ok (.iload_n 1, 1) := by decide +kernel
theorem dX0_hasPlan_1 : decode cX0_hasPlan 1 = .ok (.ifCond .lt 15, 3) := by decide +kernel
theorem dX0_hasPlan_4 : decode cX0_hasPlan 4 = .ok (.iload_n 1, 1) := by decide +kernel
theorem dX0_hasPlan_5 : decode cX0_hasPlan 5 = .ok (.aload_n 0, 1) := by decide +kernel
theorem dX0_hasPlan_6 : decode cX0_hasPlan 6 = .ok (.getfield 71, 3) := by decide +kernel
theorem dX0_hasPlan_9 : decode cX0_hasPlan 9 = .ok (.if_icmp .ge 7, 3) := by decide +kernel
theorem dX0_hasPlan_16 : decode cX0_hasPlan 16 = .ok (.iconst 0, 1) := by decide +kernel
theorem dX0_hasPlan_17 : decode cX0_hasPlan 17 = .ok (.ireturn, 1) := by decide +kernel
theorem dX0_hasState_0 : decode cX0_hasState 0 = .ok (.iload_n 1, 1) := by decide +kernel
theorem dX0_hasState_1 : decode cX0_hasState 1 = .ok (.ifCond .lt 15, 3) := by decide +kernel
theorem dX0_hasState_4 : decode cX0_hasState 4 = .ok (.iload_n 1, 1) := by decide +kernel
theorem dX0_hasState_5 : decode cX0_hasState 5 = .ok (.aload_n 0, 1) := by decide +kernel
theorem dX0_hasState_6 : decode cX0_hasState 6 = .ok (.getfield 46, 3) := by decide +kernel
theorem dX0_hasState_9 : decode cX0_hasState 9 = .ok (.if_icmp .ge 7, 3) := by decide +kernel
theorem dX0_hasState_16 : decode cX0_hasState 16 = .ok (.iconst 0, 1) := by decide +kernel
theorem dX0_hasState_17 : decode cX0_hasState 17 = .ok (.ireturn, 1) := by decide +kernel
theorem dX0_hasWord_0 : decode cX0_hasWord 0 = .ok (.iload_n 1, 1) := by decide +kernel
theorem dX0_hasWord_1 : decode cX0_hasWord 1 = .ok (.ifCond .lt 15, 3) := by decide +kernel
theorem dX0_hasWord_4 : decode cX0_hasWord 4 = .ok (.iload_n 1, 1) := by decide +kernel
theorem dX0_hasWord_5 : decode cX0_hasWord 5 = .ok (.aload_n 0, 1) := by decide +kernel
theorem dX0_hasWord_6 : decode cX0_hasWord 6 = .ok (.getfield 68, 3) := by decide +kernel
theorem dX0_hasWord_9 : decode cX0_hasWord 9 = .ok (.if_icmp .ge 7, 3) := by decide +kernel
theorem dX0_hasWord_16 : decode cX0_hasWord 16 = .ok (.iconst 0, 1) := by decide +kernel
theorem dX0_hasWord_17 : decode cX0_hasWord 17 = .ok (.ireturn, 1) := by decide +kernel
theorem dX0_stands_0 : decode cX0_stands 0 = .ok (.aload_n 0, 1) := by decide +kernel
theorem dX0_stands_1 : decode cX0_stands 1 = .ok (.getfield 62, 3) := by decide +kernel
theorem dX0_stands_4 : decode cX0_stands 4 = .ok (.ifCond .le 7, 3) := by decide +kernel
theorem dX0_stands_11 : decode cX0_stands 11 = .ok (.iconst 0, 1) := by decide +kernel
theorem dX0_stands_12 : decode cX0_stands 12 = .ok (.ireturn, 1) := by decide +kernel
theorem dX11_all_0 : decode cX11_all 0 = .ok (.aload_n 0, 1) := by decide +kernel
theorem dX11_all_1 : decode cX11_all 1 = .ok (.getfield 19, 3) := by decide +kernel
theorem dX11_all_4 : decode cX11_all 4 = .ok (.invokevirtual 245, 3) := by decide +kernel
theorem dX11_all_7 : decode cX11_all 7 = .ok (.ifCond .ne 6, 3) := by decide +kernel
theorem dX11_all_10 : decode cX11_all 10 = .ok (.bipush (-2), 2) := by decide +kernel
theorem dX11_all_12 : decode cX11_all 12 = .ok (.ireturn, 1) := by decide +kernel
theorem dX11_behind_0 : decode cX11_behind 0 = .ok (.aload_n 0, 1) := by decide +kernel
theorem dX11_behind_1 : decode cX11_behind 1 = .ok (.getfield 19, 3) := by decide +kernel
theorem dX11_behind_4 : decode cX11_behind 4 = .ok (.iload_n 1, 1) := by decide +kernel
theorem dX11_behind_5 : decode cX11_behind 5 = .ok (.invokevirtual 159, 3) := by decide +kernel
theorem dX11_behind_8 : decode cX11_behind 8 = .ok (.ifCond .eq 14, 3) := by decide +kernel
theorem dX11_behind_22 : decode cX11_behind 22 = .ok (.bipush (-2), 2) := by decide +kernel
theorem dX11_behind_24 : decode cX11_behind 24 = .ok (.ireturn, 1) := by decide +kernel
theorem dX11_believes_0 : decode cX11_believes 0 = .ok (.aload_n 0, 1) := by decide +kernel
theorem dX11_believes_1 : decode cX11_believes 1 = .ok (.iload_n 1, 1) := by decide +kernel
theorem dX11_believes_2 : decode cX11_believes 2 = .ok (.invokevirtual 183, 3) := by decide +kernel
theorem dX11_believes_5 : decode cX11_believes 5 = .ok (.istore_n 2, 1) := by decide +kernel
theorem dX11_believes_6 : decode cX11_believes 6 = .ok (.iload_n 2, 1) := by decide +kernel
theorem dX11_believes_7 : decode cX11_believes 7 = .ok (.ifCond .ge 7, 3) := by decide +kernel
theorem dX11_believes_10 : decode cX11_believes 10 = .ok (.iload_n 2, 1) := by decide +kernel
theorem dX11_believes_11 : decode cX11_believes 11 = .ok (.goto 14, 3) := by decide +kernel
theorem dX11_believes_25 : decode cX11_believes 25 = .ok (.ireturn, 1) := by decide +kernel
theorem dX11_calm_0 : decode cX11_calm 0 = .ok (.aload_n 0, 1) := by decide +kernel
theorem dX11_calm_1 : decode cX11_calm 1 = .ok (.getfield 19, 3) := by decide +kernel
theorem dX11_calm_4 : decode cX11_calm 4 = .ok (.iload_n 1, 1) := by decide +kernel
theorem dX11_calm_5 : decode cX11_calm 5 = .ok (.invokevirtual 122, 3) := by decide +kernel
theorem dX11_calm_8 : decode cX11_calm 8 = .ok (.ifCond .eq 14, 3) := by decide +kernel
theorem dX11_calm_22 : decode cX11_calm 22 = .ok (.bipush (-2), 2) := by decide +kernel
theorem dX11_calm_24 : decode cX11_calm 24 = .ok (.ireturn, 1) := by decide +kernel
theorem dX11_chance_0 : decode cX11_chance 0 = .ok (.aload_n 0, 1) := by decide +kernel
theorem dX11_chance_1 : decode cX11_chance 1 = .ok (.getfield 19, 3) := by decide +kernel
theorem dX11_chance_4 : decode cX11_chance 4 = .ok (.iload_n 1, 1) := by decide +kernel
theorem dX11_chance_5 : decode cX11_chance 5 = .ok (.invokevirtual 122, 3) := by decide +kernel
theorem dX11_chance_8 : decode cX11_chance 8 = .ok (.ifCond .eq 14, 3) := by decide +kernel
theorem dX11_chance_22 : decode cX11_chance 22 = .ok (.bipush (-2), 2) := by decide +kernel
theorem dX11_chance_24 : decode cX11_chance 24 = .ok (.ireturn, 1) := by decide +kernel
theorem dX11_doubt_0 : decode cX11_doubt 0 = .ok (.aload_n 0, 1) := by decide +kernel
theorem dX11_doubt_1 : decode cX11_doubt 1 = .ok (.getfield 19, 3) := by decide +kernel
theorem dX11_doubt_4 : decode cX11_doubt 4 = .ok (.iload_n 1, 1) := by decide +kernel
theorem dX11_doubt_5 : decode cX11_doubt 5 = .ok (.invokevirtual 122, 3) := by decide +kernel
theorem dX11_doubt_8 : decode cX11_doubt 8 = .ok (.ifCond .eq 24, 3) := by decide +kernel
theorem dX11_doubt_32 : decode cX11_doubt 32 = .ok (.bipush (-2), 2) := by decide +kernel
theorem dX11_doubt_34 : decode cX11_doubt 34 = .ok (.ireturn, 1) := by decide +kernel
theorem dX11_drawn_0 : decode cX11_drawn 0 = .ok (.iload_n 1, 1) := by decide +kernel
theorem dX11_drawn_1 : decode cX11_drawn 1 = .ok (.invokestatic 371, 3) := by decide +kernel
theorem dX11_drawn_4 : decode cX11_drawn 4 = .ok (.ifCond .eq 25, 3) := by decide +kernel
theorem dX11_drawn_7 : decode cX11_drawn 7 = .ok (.aload_n 0, 1) := by decide +kernel
theorem dX11_drawn_8 : decode cX11_drawn 8 = .ok (.getfield 19, 3) := by decide +kernel
theorem dX11_drawn_11 : decode cX11_drawn 11 = .ok (.iload_n 3, 1) := by decide +kernel
theorem dX11_drawn_12 : decode cX11_drawn 12 = .ok (.invokevirtual 122, 3) := by decide +kernel
theorem dX11_drawn_15 : decode cX11_drawn 15 = .ok (.ifCond .eq 14, 3) := by decide +kernel
theorem dX11_drawn_29 : decode cX11_drawn 29 = .ok (.bipush (-2), 2) := by decide +kernel
theorem dX11_drawn_31 : decode cX11_drawn 31 = .ok (.ireturn, 1) := by decide +kernel
theorem dX11_ends_0 : decode cX11_ends 0 = .ok (.aload_n 0, 1) := by decide +kernel
theorem dX11_ends_1 : decode cX11_ends 1 = .ok (.getfield 19, 3) := by decide +kernel
theorem dX11_ends_4 : decode cX11_ends 4 = .ok (.iload_n 1, 1) := by decide +kernel
theorem dX11_ends_5 : decode cX11_ends 5 = .ok (.invokevirtual 144, 3) := by decide +kernel
theorem dX11_ends_8 : decode cX11_ends 8 = .ok (.ifCond .eq 14, 3) := by decide +kernel
theorem dX11_ends_22 : decode cX11_ends 22 = .ok (.bipush (-2), 2) := by decide +kernel
theorem dX11_ends_24 : decode cX11_ends 24 = .ok (.ireturn, 1) := by decide +kernel
theorem dX11_enough_0 : decode cX11_enough 0 = .ok (.aload_n 0, 1) := by decide +kernel
theorem dX11_enough_1 : decode cX11_enough 1 = .ok (.getfield 19, 3) := by decide +kernel
theorem dX11_enough_4 : decode cX11_enough 4 = .ok (.iload_n 1, 1) := by decide +kernel
theorem dX11_enough_5 : decode cX11_enough 5 = .ok (.invokevirtual 122, 3) := by decide +kernel
theorem dX11_enough_8 : decode cX11_enough 8 = .ok (.ifCond .ne 6, 3) := by decide +kernel
theorem dX11_enough_11 : decode cX11_enough 11 = .ok (.bipush (-2), 2) := by decide +kernel
theorem dX11_enough_13 : decode cX11_enough 13 = .ok (.ireturn, 1) := by decide +kernel
theorem dX11_feelWeek_0 : decode cX11_feelWeek 0 = .ok (.aload_n 0, 1) := by decide +kernel
theorem dX11_feelWeek_1 : decode cX11_feelWeek 1 = .ok (.getfield 19, 3) := by decide +kernel
theorem dX11_feelWeek_4 : decode cX11_feelWeek 4 = .ok (.iload_n 2, 1) := by decide +kernel
theorem dX11_feelWeek_5 : decode cX11_feelWeek 5 = .ok (.invokevirtual 122, 3) := by decide +kernel
theorem dX11_feelWeek_8 : decode cX11_feelWeek 8 = .ok (.ifCond .ne 6, 3) := by decide +kernel
theorem dX11_feelWeek_11 : decode cX11_feelWeek 11 = .ok (.bipush (-2), 2) := by decide +kernel
theorem dX11_feelWeek_13 : decode cX11_feelWeek 13 = .ok (.ireturn, 1) := by decide +kernel
theorem dX11_fewest_0 : decode cX11_fewest 0 = .ok (.aload_n 0, 1) := by decide +kernel
theorem dX11_fewest_1 : decode cX11_fewest 1 = .ok (.getfield 19, 3) := by decide +kernel
theorem dX11_fewest_4 : decode cX11_fewest 4 = .ok (.invokevirtual 245, 3) := by decide +kernel
theorem dX11_fewest_7 : decode cX11_fewest 7 = .ok (.ifCond .ne 6, 3) := by decide +kernel
theorem dX11_fewest_10 : decode cX11_fewest 10 = .ok (.bipush (-2), 2) := by decide +kernel
theorem dX11_fewest_12 : decode cX11_fewest 12 = .ok (.ireturn, 1) := by decide +kernel
theorem dX11_first_0 : decode cX11_first 0 = .ok (.aload_n 0, 1) := by decide +kernel
theorem dX11_first_1 : decode cX11_first 1 = .ok (.getfield 19, 3) := by decide +kernel
theorem dX11_first_4 : decode cX11_first 4 = .ok (.invokevirtual 245, 3) := by decide +kernel
theorem dX11_first_7 : decode cX11_first 7 = .ok (.ifCond .eq 13, 3) := by decide +kernel
theorem dX11_first_20 : decode cX11_first 20 = .ok (.bipush (-2), 2) := by decide +kernel
theorem dX11_first_22 : decode cX11_first 22 = .ok (.ireturn, 1) := by decide +kernel
theorem dX11_gentlest_0 : decode cX11_gentlest 0 = .ok (.aload_n 0, 1) := by decide +kernel
theorem dX11_gentlest_1 : decode cX11_gentlest 1 = .ok (.getfield 19, 3) := by decide +kernel
theorem dX11_gentlest_4 : decode cX11_gentlest 4 = .ok (.iload_n 1, 1) := by decide +kernel
theorem dX11_gentlest_5 : decode cX11_gentlest 5 = .ok (.invokevirtual 122, 3) := by decide +kernel
theorem dX11_gentlest_8 : decode cX11_gentlest 8 = .ok (.ifCond .eq 13, 3) := by decide +kernel
theorem dX11_gentlest_21 : decode cX11_gentlest 21 = .ok (.bipush (-2), 2) := by decide +kernel
theorem dX11_gentlest_23 : decode cX11_gentlest 23 = .ok (.ireturn, 1) := by decide +kernel
theorem dX11_gently_0 : decode cX11_gently 0 = .ok (.aload_n 0, 1) := by decide +kernel
theorem dX11_gently_1 : decode cX11_gently 1 = .ok (.iload_n 1, 1) := by decide +kernel
theorem dX11_gently_2 : decode cX11_gently 2 = .ok (.iload_n 2, 1) := by decide +kernel
theorem dX11_gently_3 : decode cX11_gently 3 = .ok (.iconst 1, 1) := by decide +kernel
theorem dX11_gently_4 : decode cX11_gently 4 = .ok (.iconst 0, 1) := by decide +kernel
theorem dX11_gently_5 : decode cX11_gently 5 = .ok (.invokevirtual 241, 3) := by decide +kernel
theorem dX11_gently_8 : decode cX11_gently 8 = .ok (.ireturn, 1) := by decide +kernel
theorem dX11_grade_0 : decode cX11_grade 0 = .ok (.aload_n 0, 1) := by decide +kernel
theorem dX11_grade_1 : decode cX11_grade 1 = .ok (.getfield 19, 3) := by decide +kernel
theorem dX11_grade_4 : decode cX11_grade 4 = .ok (.iload_n 1, 1) := by decide +kernel
theorem dX11_grade_5 : decode cX11_grade 5 = .ok (.invokevirtual 114, 3) := by decide +kernel
theorem dX11_grade_8 : decode cX11_grade 8 = .ok (.ifCond .eq 15, 3) := by decide +kernel
theorem dX11_grade_23 : decode cX11_grade 23 = .ok (.bipush (-2), 2) := by decide +kernel
theorem dX11_grade_25 : decode cX11_grade 25 = .ok (.ireturn, 1) := by decide +kernel
theorem dX11_guess_0 : decode cX11_guess 0 = .ok (.aload_n 0, 1) := by decide +kernel
theorem dX11_guess_1 : decode cX11_guess 1 = .ok (.getfield 19, 3) := by decide +kernel
theorem dX11_guess_4 : decode cX11_guess 4 = .ok (.iload_n 2, 1) := by decide +kernel
theorem dX11_guess_5 : decode cX11_guess 5 = .ok (.invokevirtual 122, 3) := by decide +kernel
theorem dX11_guess_8 : decode cX11_guess 8 = .ok (.ifCond .ne 6, 3) := by decide +kernel
theorem dX11_guess_11 : decode cX11_guess 11 = .ok (.bipush (-2), 2) := by decide +kernel
theorem dX11_guess_13 : decode cX11_guess 13 = .ok (.ireturn, 1) := by decide +kernel
theorem dX11_heard_0 : decode cX11_heard 0 = .ok (.aload_n 0, 1) := by decide +kernel
theorem dX11_heard_1 : decode cX11_heard 1 = .ok (.getfield 19, 3) := by decide +kernel
theorem dX11_heard_4 : decode cX11_heard 4 = .ok (.invokevirtual 245, 3) := by decide +kernel
theorem dX11_heard_7 : decode cX11_heard 7 = .ok (.ifCond .eq 22, 3) := by decide +kernel
theorem dX11_heard_29 : decode cX11_heard 29 = .ok (.bipush (-2), 2) := by decide +kernel
theorem dX11_heard_31 : decode cX11_heard 31 = .ok (.ireturn, 1) := by decide +kernel
theorem dX11_honest_0 : decode cX11_honest 0 = .ok (.aload_n 0, 1) := by decide +kernel
theorem dX11_honest_1 : decode cX11_honest 1 = .ok (.iload_n 1, 1) := by decide +kernel
theorem dX11_honest_2 : decode cX11_honest 2 = .ok (.iload_n 2, 1) := by decide +kernel
theorem dX11_honest_3 : decode cX11_honest 3 = .ok (.iconst 0, 1) := by decide +kernel
theorem dX11_honest_4 : decode cX11_honest 4 = .ok (.iconst 1, 1) := by decide +kernel
theorem dX11_honest_5 : decode cX11_honest 5 = .ok (.invokevirtual 241, 3) := by decide +kernel
theorem dX11_honest_8 : decode cX11_honest 8 = .ok (.ireturn, 1) := by decide +kernel
theorem dX11_hope_0 : decode cX11_hope 0 = .ok (.aload_n 0, 1) := by decide +kernel
theorem dX11_hope_1 : decode cX11_hope 1 = .ok (.getfield 19, 3) := by decide +kernel
theorem dX11_hope_4 : decode cX11_hope 4 = .ok (.iload_n 2, 1) := by decide +kernel
theorem dX11_hope_5 : decode cX11_hope 5 = .ok (.invokevirtual 122, 3) := by decide +kernel
theorem dX11_hope_8 : decode cX11_hope 8 = .ok (.ifCond .eq 25, 3) := by decide +kernel
theorem dX11_hope_33 : decode cX11_hope 33 = .ok (.bipush (-2), 2) := by decide +kernel
theorem dX11_hope_35 : decode cX11_hope 35 = .ok (.ireturn, 1) := by decide +kernel
theorem dX11_hurt_0 : decode cX11_hurt 0 = .ok (.aload_n 0, 1) := by decide +kernel
theorem dX11_hurt_1 : decode cX11_hurt 1 = .ok (.getfield 19, 3) := by decide +kernel
theorem dX11_hurt_4 : decode cX11_hurt 4 = .ok (.iload_n 1, 1) := by decide +kernel
theorem dX11_hurt_5 : decode cX11_hurt 5 = .ok (.invokevirtual 122, 3) := by decide +kernel
theorem dX11_hurt_8 : decode cX11_hurt 8 = .ok (.ifCond .eq 25, 3) := by decide +kernel
theorem dX11_hurt_33 : decode cX11_hurt 33 = .ok (.bipush (-2), 2) := by decide +kernel
theorem dX11_hurt_35 : decode cX11_hurt 35 = .ok (.ireturn, 1) := by decide +kernel
theorem dX11_hurts_0 : decode cX11_hurts 0 = .ok (.aload_n 0, 1) := by decide +kernel
theorem dX11_hurts_1 : decode cX11_hurts 1 = .ok (.iload_n 1, 1) := by decide +kernel
theorem dX11_hurts_2 : decode cX11_hurts 2 = .ok (.iload_n 2, 1) := by decide +kernel
theorem dX11_hurts_3 : decode cX11_hurts 3 = .ok (.invokevirtual 191, 3) := by decide +kernel
theorem dX11_hurts_6 : decode cX11_hurts 6 = .ok (.istore_n 3, 1) := by decide +kernel
theorem dX11_hurts_7 : decode cX11_hurts 7 = .ok (.iload_n 3, 1) := by decide +kernel
theorem dX11_hurts_8 : decode cX11_hurts 8 = .ok (.ifCond .ge 7, 3) := by decide +kernel
theorem dX11_hurts_11 : decode cX11_hurts 11 = .ok (.iload_n 3, 1) := by decide +kernel
theorem dX11_hurts_12 : decode cX11_hurts 12 = .ok (.goto 10, 3) := by decide +kernel
theorem dX11_hurts_22 : decode cX11_hurts 22 = .ok (.ireturn, 1) := by decide +kernel
theorem dX11_idle_0 : decode cX11_idle 0 = .ok (.aload_n 0, 1) := by decide +kernel
theorem dX11_idle_1 : decode cX11_idle 1 = .ok (.getfield 19, 3) := by decide +kernel
theorem dX11_idle_4 : decode cX11_idle 4 = .ok (.invokevirtual 245, 3) := by decide +kernel
theorem dX11_idle_7 : decode cX11_idle 7 = .ok (.ifCond .ne 6, 3) := by decide +kernel
theorem dX11_idle_10 : decode cX11_idle 10 = .ok (.bipush (-2), 2) := by decide +kernel
theorem dX11_idle_12 : decode cX11_idle 12 = .ok (.ireturn, 1) := by decide +kernel
theorem dX11_isSeed_0 : decode cX11_isSeed 0 = .ok (.iload_n 0, 1) := by decide +kernel
theorem dX11_isSeed_1 : decode cX11_isSeed 1 = .ok (.ifCond .lt 14, 3) := by decide +kernel
theorem dX11_isSeed_4 : decode cX11_isSeed 4 = .ok (.iload_n 0, 1) := by decide +kernel
theorem dX11_isSeed_5 : decode cX11_isSeed 5 = .ok (.ldc_w 434, 3) := by decide +kernel
theorem dX11_isSeed_8 : decode cX11_isSeed 8 = .ok (.if_icmp .gt 7, 3) := by decide +kernel
theorem dX11_isSeed_11 : decode cX11_isSeed 11 = .ok (.iconst 1, 1) := by decide +kernel
theorem dX11_isSeed_12 : decode cX11_isSeed 12 = .ok (.goto 4, 3) := by decide +kernel
theorem dX11_isSeed_15 : decode cX11_isSeed 15 = .ok (.iconst 0, 1) := by decide +kernel
theorem dX11_isSeed_16 : decode cX11_isSeed 16 = .ok (.ireturn, 1) := by decide +kernel
theorem dX11_isSlot_0 : decode cX11_isSlot 0 = .ok (.iload_n 0, 1) := by decide +kernel
theorem dX11_isSlot_1 : decode cX11_isSlot 1 = .ok (.ifCond .lt 12, 3) := by decide +kernel
theorem dX11_isSlot_4 : decode cX11_isSlot 4 = .ok (.iload_n 0, 1) := by decide +kernel
theorem dX11_isSlot_5 : decode cX11_isSlot 5 = .ok (.iconst 4, 1) := by decide +kernel
theorem dX11_isSlot_6 : decode cX11_isSlot 6 = .ok (.if_icmp .ge 7, 3) := by decide +kernel
theorem dX11_isSlot_9 : decode cX11_isSlot 9 = .ok (.iconst 1, 1) := by decide +kernel
theorem dX11_isSlot_10 : decode cX11_isSlot 10 = .ok (.goto 4, 3) := by decide +kernel
theorem dX11_isSlot_13 : decode cX11_isSlot 13 = .ok (.iconst 0, 1) := by decide +kernel
theorem dX11_isSlot_14 : decode cX11_isSlot 14 = .ok (.ireturn, 1) := by decide +kernel
theorem dX11_joined_0 : decode cX11_joined 0 = .ok (.aload_n 0, 1) := by decide +kernel
theorem dX11_joined_1 : decode cX11_joined 1 = .ok (.getfield 19, 3) := by decide +kernel
theorem dX11_joined_4 : decode cX11_joined 4 = .ok (.invokevirtual 245, 3) := by decide +kernel
theorem dX11_joined_7 : decode cX11_joined 7 = .ok (.ifCond .eq 13, 3) := by decide +kernel
theorem dX11_joined_20 : decode cX11_joined 20 = .ok (.bipush (-2), 2) := by decide +kernel
theorem dX11_joined_22 : decode cX11_joined 22 = .ok (.ireturn, 1) := by decide +kernel
theorem dX11_knew_0 : decode cX11_knew 0 = .ok (.aload_n 0, 1) := by decide +kernel
theorem dX11_knew_1 : decode cX11_knew 1 = .ok (.iload_n 1, 1) := by decide +kernel
theorem dX11_knew_2 : decode cX11_knew 2 = .ok (.iload_n 2, 1) := by decide +kernel
theorem dX11_knew_3 : decode cX11_knew 3 = .ok (.invokevirtual 305, 3) := by decide +kernel
theorem dX11_knew_6 : decode cX11_knew 6 = .ok (.istore_n 3, 1) := by decide +kernel
theorem dX11_knew_7 : decode cX11_knew 7 = .ok (.iload_n 3, 1) := by decide +kernel
theorem dX11_knew_8 : decode cX11_knew 8 = .ok (.ifCond .ge 7, 3) := by decide +kernel
theorem dX11_knew_11 : decode cX11_knew 11 = .ok (.iload_n 3, 1) := by decide +kernel
theorem dX11_knew_12 : decode cX11_knew 12 = .ok (.goto 10, 3) := by decide +kernel
theorem dX11_knew_22 : decode cX11_knew 22 = .ok (.ireturn, 1) := by decide +kernel
theorem dX11_known_0 : decode cX11_known 0 = .ok (.aload_n 0, 1) := by decide +kernel
theorem dX11_known_1 : decode cX11_known 1 = .ok (.iload_n 1, 1) := by decide +kernel
theorem dX11_known_2 : decode cX11_known 2 = .ok (.invokevirtual 183, 3) := by decide +kernel
theorem dX11_known_5 : decode cX11_known 5 = .ok (.istore_n 2, 1) := by decide +kernel
theorem dX11_known_6 : decode cX11_known 6 = .ok (.iload_n 2, 1) := by decide +kernel
theorem dX11_known_7 : decode cX11_known 7 = .ok (.ifCond .ge 7, 3) := by decide +kernel
theorem dX11_known_10 : decode cX11_known 10 = .ok (.iload_n 2, 1) := by decide +kernel
theorem dX11_known_11 : decode cX11_known 11 = .ok (.goto 17, 3) := by decide +kernel
theorem dX11_known_28 : decode cX11_known 28 = .ok (.ireturn, 1) := by decide +kernel
theorem dX11_late_0 : decode cX11_late 0 = .ok (.aload_n 0, 1) := by decide +kernel
theorem dX11_late_1 : decode cX11_late 1 = .ok (.getfield 19, 3) := by decide +kernel
theorem dX11_late_4 : decode cX11_late 4 = .ok (.iload_n 1, 1) := by decide +kernel
theorem dX11_late_5 : decode cX11_late 5 = .ok (.invokevirtual 122, 3) := by decide +kernel
theorem dX11_late_8 : decode cX11_late 8 = .ok (.ifCond .eq 7, 3) := by decide +kernel
theorem dX11_late_15 : decode cX11_late 15 = .ok (.bipush (-2), 2) := by decide +kernel
theorem dX11_late_17 : decode cX11_late 17 = .ok (.ireturn, 1) := by decide +kernel
theorem dX11_leaks_0 : decode cX11_leaks 0 = .ok (.aload_n 0, 1) := by decide +kernel
theorem dX11_leaks_1 : decode cX11_leaks 1 = .ok (.getfield 19, 3) := by decide +kernel
theorem dX11_leaks_4 : decode cX11_leaks 4 = .ok (.invokevirtual 245, 3) := by decide +kernel
theorem dX11_leaks_7 : decode cX11_leaks 7 = .ok (.ifCond .eq 21, 3) := by decide +kernel
theorem dX11_leaks_28 : decode cX11_leaks 28 = .ok (.bipush (-2), 2) := by decide +kernel
theorem dX11_leaks_30 : decode cX11_leaks 30 = .ok (.ireturn, 1) := by decide +kernel
theorem dX11_least_0 : decode cX11_least 0 = .ok (.aload_n 0, 1) := by decide +kernel
theorem dX11_least_1 : decode cX11_least 1 = .ok (.getfield 19, 3) := by decide +kernel
theorem dX11_least_4 : decode cX11_least 4 = .ok (.iload_n 1, 1) := by decide +kernel
theorem dX11_least_5 : decode cX11_least 5 = .ok (.invokevirtual 122, 3) := by decide +kernel
theorem dX11_least_8 : decode cX11_least 8 = .ok (.ifCond .eq 13, 3) := by decide +kernel
theorem dX11_least_21 : decode cX11_least 21 = .ok (.bipush (-2), 2) := by decide +kernel
theorem dX11_least_23 : decode cX11_least 23 = .ok (.ireturn, 1) := by decide +kernel
theorem dX11_left_0 : decode cX11_left 0 = .ok (.aload_n 0, 1) := by decide +kernel
theorem dX11_left_1 : decode cX11_left 1 = .ok (.iload_n 1, 1) := by decide +kernel
theorem dX11_left_2 : decode cX11_left 2 = .ok (.iload_n 2, 1) := by decide +kernel
theorem dX11_left_3 : decode cX11_left 3 = .ok (.invokevirtual 191, 3) := by decide +kernel
theorem dX11_left_6 : decode cX11_left 6 = .ok (.istore_n 3, 1) := by decide +kernel
theorem dX11_left_7 : decode cX11_left 7 = .ok (.iload_n 3, 1) := by decide +kernel
theorem dX11_left_8 : decode cX11_left 8 = .ok (.ifCond .ge 7, 3) := by decide +kernel
theorem dX11_left_11 : decode cX11_left 11 = .ok (.iload_n 3, 1) := by decide +kernel
theorem dX11_left_12 : decode cX11_left 12 = .ok (.goto 14, 3) := by decide +kernel
theorem dX11_left_26 : decode cX11_left 26 = .ok (.ireturn, 1) := by decide +kernel
theorem dX11_letter_0 : decode cX11_letter 0 = .ok (.aload_n 0, 1) := by decide +kernel
theorem dX11_letter_1 : decode cX11_letter 1 = .ok (.getfield 19, 3) := by decide +kernel
theorem dX11_letter_4 : decode cX11_letter 4 = .ok (.iload_n 2, 1) := by decide +kernel
theorem dX11_letter_5 : decode cX11_letter 5 = .ok (.invokevirtual 150, 3) := by decide +kernel
theorem dX11_letter_8 : decode cX11_letter 8 = .ok (.ifCond .eq 13, 3) := by decide +kernel
theorem dX11_letter_21 : decode cX11_letter 21 = .ok (.bipush (-2), 2) := by decide +kernel
theorem dX11_letter_23 : decode cX11_letter 23 = .ok (.ireturn, 1) := by decide +kernel
theorem dX11_lies_0 : decode cX11_lies 0 = .ok (.aload_n 0, 1) := by decide +kernel
theorem dX11_lies_1 : decode cX11_lies 1 = .ok (.iload_n 1, 1) := by decide +kernel
theorem dX11_lies_2 : decode cX11_lies 2 = .ok (.invokevirtual 183, 3) := by decide +kernel
theorem dX11_lies_5 : decode cX11_lies 5 = .ok (.istore_n 2, 1) := by decide +kernel
theorem dX11_lies_6 : decode cX11_lies 6 = .ok (.iload_n 2, 1) := by decide +kernel
theorem dX11_lies_7 : decode cX11_lies 7 = .ok (.ifCond .ge 7, 3) := by decide +kernel
theorem dX11_lies_10 : decode cX11_lies 10 = .ok (.iload_n 2, 1) := by decide +kernel
theorem dX11_lies_11 : decode cX11_lies 11 = .ok (.goto 14, 3) := by decide +kernel
theorem dX11_lies_25 : decode cX11_lies 25 = .ok (.ireturn, 1) := by decide +kernel
theorem dX11_mean_0 : decode cX11_mean 0 = .ok (.aload_n 0, 1) := by decide +kernel
theorem dX11_mean_1 : decode cX11_mean 1 = .ok (.getfield 19, 3) := by decide +kernel
theorem dX11_mean_4 : decode cX11_mean 4 = .ok (.iload_n 1, 1) := by decide +kernel
theorem dX11_mean_5 : decode cX11_mean 5 = .ok (.invokevirtual 122, 3) := by decide +kernel
theorem dX11_mean_8 : decode cX11_mean 8 = .ok (.ifCond .eq 14, 3) := by decide +kernel
theorem dX11_mean_22 : decode cX11_mean 22 = .ok (.bipush (-2), 2) := by decide +kernel
theorem dX11_mean_24 : decode cX11_mean 24 = .ok (.ireturn, 1) := by decide +kernel
theorem dX11_news_0 : decode cX11_news 0 = .ok (.aload_n 0, 1) := by decide +kernel
theorem dX11_news_1 : decode cX11_news 1 = .ok (.getfield 19, 3) := by decide +kernel
theorem dX11_news_4 : decode cX11_news 4 = .ok (.iload_n 1, 1) := by decide +kernel
theorem dX11_news_5 : decode cX11_news 5 = .ok (.invokevirtual 150, 3) := by decide +kernel
theorem dX11_news_8 : decode cX11_news 8 = .ok (.ifCond .eq 15, 3) := by decide +kernel
theorem dX11_news_23 : decode cX11_news 23 = .ok (.sipush (-1000), 3) := by decide +kernel
theorem dX11_news_26 : decode cX11_news 26 = .ok (.ireturn, 1) := by decide +kernel
theorem dX11_now_0 : decode cX11_now 0 = .ok (.aload_n 0, 1) := by decide +kernel
theorem dX11_now_1 : decode cX11_now 1 = .ok (.getfield 19, 3) := by decide +kernel
theorem dX11_now_4 : decode cX11_now 4 = .ok (.iload_n 1, 1) := by decide +kernel
theorem dX11_now_5 : decode cX11_now 5 = .ok (.invokevirtual 122, 3) := by decide +kernel
theorem dX11_now_8 : decode cX11_now 8 = .ok (.ifCond .eq 25, 3) := by decide +kernel
theorem dX11_now_33 : decode cX11_now 33 = .ok (.bipush (-2), 2) := by decide +kernel
theorem dX11_now_35 : decode cX11_now 35 = .ok (.ireturn, 1) := by decide +kernel
theorem dX11_once_0 : decode cX11_once 0 = .ok (.aload_n 0, 1) := by decide +kernel
theorem dX11_once_1 : decode cX11_once 1 = .ok (.getfield 19, 3) := by decide +kernel
theorem dX11_once_4 : decode cX11_once 4 = .ok (.iload_n 1, 1) := by decide +kernel
theorem dX11_once_5 : decode cX11_once 5 = .ok (.invokevirtual 122, 3) := by decide +kernel
theorem dX11_once_8 : decode cX11_once 8 = .ok (.ifCond .eq 14, 3) := by decide +kernel
theorem dX11_once_22 : decode cX11_once 22 = .ok (.bipush (-2), 2) := by decide +kernel
theorem dX11_once_24 : decode cX11_once 24 = .ok (.ireturn, 1) := by decide +kernel
theorem dX11_orderWeek_0 : decode cX11_orderWeek 0 = .ok (.aload_n 0, 1) := by decide +kernel
theorem dX11_orderWeek_1 : decode cX11_orderWeek 1 = .ok (.getfield 19, 3) := by decide +kernel
theorem dX11_orderWeek_4 : decode cX11_orderWeek 4 = .ok (.iload_n 2, 1) := by decide +kernel
theorem dX11_orderWeek_5 : decode cX11_orderWeek 5 = .ok (.invokevirtual 122, 3) := by decide +kernel
theorem dX11_orderWeek_8 : decode cX11_orderWeek 8 = .ok (.ifCond .ne 6, 3) := by decide +kernel
theorem dX11_orderWeek_11 : decode cX11_orderWeek 11 = .ok (.bipush (-2), 2) := by decide +kernel
theorem dX11_orderWeek_13 : decode cX11_orderWeek 13 = .ok (.ireturn, 1) := by decide +kernel
theorem dX11_ordered_0 : decode cX11_ordered 0 = .ok (.aload_n 0, 1) := by decide +kernel
theorem dX11_ordered_1 : decode cX11_ordered 1 = .ok (.iload_n 1, 1) := by decide +kernel
theorem dX11_ordered_2 : decode cX11_ordered 2 = .ok (.iload_n 2, 1) := by decide +kernel
theorem dX11_ordered_3 : decode cX11_ordered 3 = .ok (.invokevirtual 216, 3) := by decide +kernel
theorem dX11_ordered_6 : decode cX11_ordered 6 = .ok (.istore 4, 2) := by decide +kernel
theorem dX11_ordered_8 : decode cX11_ordered 8 = .ok (.iload 4, 2) := by decide +kernel
theorem dX11_ordered_10 : decode cX11_ordered 10 = .ok (.ifCond .ge 6, 3) := by decide +kernel
theorem dX11_ordered_13 : decode cX11_ordered 13 = .ok (.iload 4, 2) := by decide +kernel
theorem dX11_ordered_15 : decode cX11_ordered 15 = .ok (.ireturn, 1) := by decide +kernel
theorem dX11_plan_0 : decode cX11_plan 0 = .ok (.aload_n 0, 1) := by decide +kernel
theorem dX11_plan_1 : decode cX11_plan 1 = .ok (.getfield 19, 3) := by decide +kernel
theorem dX11_plan_4 : decode cX11_plan 4 = .ok (.iload_n 1, 1) := by decide +kernel
theorem dX11_plan_5 : decode cX11_plan 5 = .ok (.invokevirtual 144, 3) := by decide +kernel
theorem dX11_plan_8 : decode cX11_plan 8 = .ok (.ifCond .ne 6, 3) := by decide +kernel
theorem dX11_plan_11 : decode cX11_plan 11 = .ok (.bipush (-2), 2) := by decide +kernel
theorem dX11_plan_13 : decode cX11_plan 13 = .ok (.ireturn, 1) := by decide +kernel
theorem dX11_read_0 : decode cX11_read 0 = .ok (.aload_n 0, 1) := by decide +kernel
theorem dX11_read_1 : decode cX11_read 1 = .ok (.iload_n 1, 1) := by decide +kernel
theorem dX11_read_2 : decode cX11_read 2 = .ok (.invokevirtual 183, 3) := by decide +kernel
theorem dX11_read_5 : decode cX11_read 5 = .ok (.istore_n 2, 1) := by decide +kernel
theorem dX11_read_6 : decode cX11_read 6 = .ok (.iload_n 2, 1) := by decide +kernel
theorem dX11_read_7 : decode cX11_read 7 = .ok (.ifCond .ge 7, 3) := by decide +kernel
theorem dX11_read_10 : decode cX11_read 10 = .ok (.iload_n 2, 1) := by decide +kernel
theorem dX11_read_11 : decode cX11_read 11 = .ok (.goto 14, 3) := by decide +kernel
theorem dX11_read_25 : decode cX11_read 25 = .ok (.ireturn, 1) := by decide +kernel
theorem dX11_really_0 : decode cX11_really 0 = .ok (.aload_n 0, 1) := by decide +kernel
theorem dX11_really_1 : decode cX11_really 1 = .ok (.getfield 19, 3) := by decide +kernel
theorem dX11_really_4 : decode cX11_really 4 = .ok (.iload_n 1, 1) := by decide +kernel
theorem dX11_really_5 : decode cX11_really 5 = .ok (.invokevirtual 114, 3) := by decide +kernel
theorem dX11_really_8 : decode cX11_really 8 = .ok (.ifCond .ne 6, 3) := by decide +kernel
theorem dX11_really_11 : decode cX11_really 11 = .ok (.bipush (-2), 2) := by decide +kernel
theorem dX11_really_13 : decode cX11_really 13 = .ok (.ireturn, 1) := by decide +kernel
theorem dX11_reckonWeek_0 : decode cX11_reckonWeek 0 = .ok (.aload_n 0, 1) := by decide +kernel
theorem dX11_reckonWeek_1 : decode cX11_reckonWeek 1 = .ok (.getfield 19, 3) := by decide +kernel
theorem dX11_reckonWeek_4 : decode cX11_reckonWeek 4 = .ok (.iload_n 2, 1) := by decide +kernel
theorem dX11_reckonWeek_5 : decode cX11_reckonWeek 5 = .ok (.invokevirtual 122, 3) := by decide +kernel
theorem dX11_reckonWeek_8 : decode cX11_reckonWeek 8 = .ok (.ifCond .ne 6, 3) := by decide +kernel
theorem dX11_reckonWeek_11 : decode cX11_reckonWeek 11 = .ok (.bipush (-2), 2) := by decide +kernel
theorem dX11_reckonWeek_13 : decode cX11_reckonWeek 13 = .ok (.ireturn, 1) := by decide +kernel
theorem dX11_reckoned_0 : decode cX11_reckoned 0 = .ok (.aload_n 0, 1) := by decide +kernel
theorem dX11_reckoned_1 : decode cX11_reckoned 1 = .ok (.iload_n 1, 1) := by decide +kernel
theorem dX11_reckoned_2 : decode cX11_reckoned 2 = .ok (.iload_n 2, 1) := by decide +kernel
theorem dX11_reckoned_3 : decode cX11_reckoned 3 = .ok (.invokevirtual 305, 3) := by decide +kernel
theorem dX11_reckoned_6 : decode cX11_reckoned 6 = .ok (.istore_n 3, 1) := by decide +kernel
theorem dX11_reckoned_7 : decode cX11_reckoned 7 = .ok (.iload_n 3, 1) := by decide +kernel
theorem dX11_reckoned_8 : decode cX11_reckoned 8 = .ok (.ifCond .ge 5, 3) := by decide +kernel
theorem dX11_reckoned_11 : decode cX11_reckoned 11 = .ok (.iload_n 3, 1) := by decide +kernel
theorem dX11_reckoned_12 : decode cX11_reckoned 12 = .ok (.ireturn, 1) := by decide +kernel
theorem dX11_rest_0 : decode cX11_rest 0 = .ok (.aload_n 0, 1) := by decide +kernel
theorem dX11_rest_1 : decode cX11_rest 1 = .ok (.getfield 19, 3) := by decide +kernel
theorem dX11_rest_4 : decode cX11_rest 4 = .ok (.iload_n 1, 1) := by decide +kernel
theorem dX11_rest_5 : decode cX11_rest 5 = .ok (.invokevirtual 122, 3) := by decide +kernel
theorem dX11_rest_8 : decode cX11_rest 8 = .ok (.ifCond .ne 6, 3) := by decide +kernel
theorem dX11_rest_11 : decode cX11_rest 11 = .ok (.bipush (-2), 2) := by decide +kernel
theorem dX11_rest_13 : decode cX11_rest 13 = .ok (.ireturn, 1) := by decide +kernel
theorem dX11_risk_0 : decode cX11_risk 0 = .ok (.aload_n 0, 1) := by decide +kernel
theorem dX11_risk_1 : decode cX11_risk 1 = .ok (.getfield 19, 3) := by decide +kernel
theorem dX11_risk_4 : decode cX11_risk 4 = .ok (.iload_n 1, 1) := by decide +kernel
theorem dX11_risk_5 : decode cX11_risk 5 = .ok (.invokevirtual 122, 3) := by decide +kernel
theorem dX11_risk_8 : decode cX11_risk 8 = .ok (.ifCond .ne 6, 3) := by decide +kernel
theorem dX11_risk_11 : decode cX11_risk 11 = .ok (.bipush (-2), 2) := by decide +kernel
theorem dX11_risk_13 : decode cX11_risk 13 = .ok (.ireturn, 1) := by decide +kernel
theorem dX11_shames_0 : decode cX11_shames 0 = .ok (.aload_n 0, 1) := by decide +kernel
theorem dX11_shames_1 : decode cX11_shames 1 = .ok (.iload_n 1, 1) := by decide +kernel
theorem dX11_shames_2 : decode cX11_shames 2 = .ok (.invokevirtual 183, 3) := by decide +kernel
theorem dX11_shames_5 : decode cX11_shames 5 = .ok (.istore_n 2, 1) := by decide +kernel
theorem dX11_shames_6 : decode cX11_shames 6 = .ok (.iload_n 2, 1) := by decide +kernel
theorem dX11_shames_7 : decode cX11_shames 7 = .ok (.ifCond .ge 7, 3) := by decide +kernel
theorem dX11_shames_10 : decode cX11_shames 10 = .ok (.iload_n 2, 1) := by decide +kernel
theorem dX11_shames_11 : decode cX11_shames 11 = .ok (.goto 14, 3) := by decide +kernel
theorem dX11_shames_25 : decode cX11_shames 25 = .ok (.ireturn, 1) := by decide +kernel
theorem dX11_shock_0 : decode cX11_shock 0 = .ok (.aload_n 0, 1) := by decide +kernel
theorem dX11_shock_1 : decode cX11_shock 1 = .ok (.getfield 19, 3) := by decide +kernel
theorem dX11_shock_4 : decode cX11_shock 4 = .ok (.iload_n 1, 1) := by decide +kernel
theorem dX11_shock_5 : decode cX11_shock 5 = .ok (.invokevirtual 122, 3) := by decide +kernel
theorem dX11_shock_8 : decode cX11_shock 8 = .ok (.ifCond .ne 6, 3) := by decide +kernel
theorem dX11_shock_11 : decode cX11_shock 11 = .ok (.bipush (-2), 2) := by decide +kernel
theorem dX11_shock_13 : decode cX11_shock 13 = .ok (.ireturn, 1) := by decide +kernel
theorem dX11_softer_0 : decode cX11_softer 0 = .ok (.aload_n 0, 1) := by decide +kernel
theorem dX11_softer_1 : decode cX11_softer 1 = .ok (.iload_n 1, 1) := by decide +kernel
theorem dX11_softer_2 : decode cX11_softer 2 = .ok (.iload_n 2, 1) := by decide +kernel
theorem dX11_softer_3 : decode cX11_softer 3 = .ok (.invokevirtual 216, 3) := by decide +kernel
theorem dX11_softer_6 : decode cX11_softer 6 = .ok (.istore_n 3, 1) := by decide +kernel
theorem dX11_softer_7 : decode cX11_softer 7 = .ok (.iload_n 3, 1) := by decide +kernel
theorem dX11_softer_8 : decode cX11_softer 8 = .ok (.ifCond .ge 7, 3) := by decide +kernel
theorem dX11_softer_11 : decode cX11_softer 11 = .ok (.iload_n 3, 1) := by decide +kernel
theorem dX11_softer_12 : decode cX11_softer 12 = .ok (.goto 10, 3) := by decide +kernel
theorem dX11_softer_22 : decode cX11_softer 22 = .ok (.ireturn, 1) := by decide +kernel
theorem dX11_softest_0 : decode cX11_softest 0 = .ok (.aload_n 0, 1) := by decide +kernel
theorem dX11_softest_1 : decode cX11_softest 1 = .ok (.getfield 19, 3) := by decide +kernel
theorem dX11_softest_4 : decode cX11_softest 4 = .ok (.iload_n 1, 1) := by decide +kernel
theorem dX11_softest_5 : decode cX11_softest 5 = .ok (.invokevirtual 122, 3) := by decide +kernel
theorem dX11_softest_8 : decode cX11_softest 8 = .ok (.ifCond .eq 14, 3) := by decide +kernel
theorem dX11_softest_22 : decode cX11_softest 22 = .ok (.bipush (-2), 2) := by decide +kernel
theorem dX11_softest_24 : decode cX11_softest 24 = .ok (.ireturn, 1) := by decide +kernel
theorem dX11_soon_0 : decode cX11_soon 0 = .ok (.aload_n 0, 1) := by decide +kernel
theorem dX11_soon_1 : decode cX11_soon 1 = .ok (.getfield 19, 3) := by decide +kernel
theorem dX11_soon_4 : decode cX11_soon 4 = .ok (.iload_n 1, 1) := by decide +kernel
theorem dX11_soon_5 : decode cX11_soon 5 = .ok (.invokevirtual 122, 3) := by decide +kernel
theorem dX11_soon_8 : decode cX11_soon 8 = .ok (.ifCond .eq 12, 3) := by decide +kernel
theorem dX11_soon_20 : decode cX11_soon 20 = .ok (.bipush (-2), 2) := by decide +kernel
theorem dX11_soon_22 : decode cX11_soon 22 = .ok (.ireturn, 1) := by decide +kernel
theorem dX11_step_0 : decode cX11_step 0 = .ok (.aload_n 0, 1) := by decide +kernel
theorem dX11_step_1 : decode cX11_step 1 = .ok (.iload_n 1, 1) := by decide +kernel
theorem dX11_step_2 : decode cX11_step 2 = .ok (.iload_n 2, 1) := by decide +kernel
theorem dX11_step_3 : decode cX11_step 3 = .ok (.iconst 0, 1) := by decide +kernel
theorem dX11_step_4 : decode cX11_step 4 = .ok (.iconst 0, 1) := by decide +kernel
theorem dX11_step_5 : decode cX11_step 5 = .ok (.invokevirtual 241, 3) := by decide +kernel
theorem dX11_step_8 : decode cX11_step 8 = .ok (.ireturn, 1) := by decide +kernel
theorem dX11_suspects_0 : decode cX11_suspects 0 = .ok (.aload_n 0, 1) := by decide +kernel
theorem dX11_suspects_1 : decode cX11_suspects 1 = .ok (.iload_n 1, 1) := by decide +kernel
theorem dX11_suspects_2 : decode cX11_suspects 2 = .ok (.invokevirtual 183, 3) := by decide +kernel
theorem dX11_suspects_5 : decode cX11_suspects 5 = .ok (.istore_n 2, 1) := by decide +kernel
theorem dX11_suspects_6 : decode cX11_suspects 6 = .ok (.iload_n 2, 1) := by decide +kernel
theorem dX11_suspects_7 : decode cX11_suspects 7 = .ok (.ifCond .ge 5, 3) := by decide +kernel
theorem dX11_suspects_10 : decode cX11_suspects 10 = .ok (.iload_n 2, 1) := by decide +kernel
theorem dX11_suspects_11 : decode cX11_suspects 11 = .ok (.ireturn, 1) := by decide +kernel
theorem dX11_takeWeek_0 : decode cX11_takeWeek 0 = .ok (.iload_n 1, 1) := by decide +kernel
theorem dX11_takeWeek_1 : decode cX11_takeWeek 1 = .ok (.invokestatic 398, 3) := by decide +kernel
theorem dX11_takeWeek_4 : decode cX11_takeWeek 4 = .ok (.ifCond .eq 13, 3) := by decide +kernel
theorem dX11_takeWeek_7 : decode cX11_takeWeek 7 = .ok (.aload_n 0, 1) := by decide +kernel
theorem dX11_takeWeek_8 : decode cX11_takeWeek 8 = .ok (.getfield 19, 3) := by decide +kernel
theorem dX11_takeWeek_11 : decode cX11_takeWeek 11 = .ok (.invokevirtual 245, 3) := by decide +kernel
theorem dX11_takeWeek_14 : decode cX11_takeWeek 14 = .ok (.ifCond .ne 6, 3) := by decide +kernel
theorem dX11_takeWeek_17 : decode cX11_takeWeek 17 = .ok (.bipush (-2), 2) := by decide +kernel
theorem dX11_takeWeek_19 : decode cX11_takeWeek 19 = .ok (.ireturn, 1) := by decide +kernel
theorem dX11_tells_0 : decode cX11_tells 0 = .ok (.aload_n 0, 1) := by decide +kernel
theorem dX11_tells_1 : decode cX11_tells 1 = .ok (.getfield 19, 3) := by decide +kernel
theorem dX11_tells_4 : decode cX11_tells 4 = .ok (.iload_n 1, 1) := by decide +kernel
theorem dX11_tells_5 : decode cX11_tells 5 = .ok (.invokevirtual 122, 3) := by decide +kernel
theorem dX11_tells_8 : decode cX11_tells 8 = .ok (.ifCond .eq 15, 3) := by decide +kernel
theorem dX11_tells_23 : decode cX11_tells 23 = .ok (.bipush (-2), 2) := by decide +kernel
theorem dX11_tells_25 : decode cX11_tells 25 = .ok (.ireturn, 1) := by decide +kernel
theorem dX11_tender_0 : decode cX11_tender 0 = .ok (.aload_n 0, 1) := by decide +kernel
theorem dX11_tender_1 : decode cX11_tender 1 = .ok (.getfield 19, 3) := by decide +kernel
theorem dX11_tender_4 : decode cX11_tender 4 = .ok (.iload_n 1, 1) := by decide +kernel
theorem dX11_tender_5 : decode cX11_tender 5 = .ok (.invokevirtual 122, 3) := by decide +kernel
theorem dX11_tender_8 : decode cX11_tender 8 = .ok (.ifCond .eq 13, 3) := by decide +kernel
theorem dX11_tender_21 : decode cX11_tender 21 = .ok (.bipush (-2), 2) := by decide +kernel
theorem dX11_tender_23 : decode cX11_tender 23 = .ok (.ireturn, 1) := by decide +kernel
theorem dX11_tenderly_0 : decode cX11_tenderly 0 = .ok (.aload_n 0, 1) := by decide +kernel
theorem dX11_tenderly_1 : decode cX11_tenderly 1 = .ok (.iload_n 1, 1) := by decide +kernel
theorem dX11_tenderly_2 : decode cX11_tenderly 2 = .ok (.iload_n 2, 1) := by decide +kernel
theorem dX11_tenderly_3 : decode cX11_tenderly 3 = .ok (.iconst 1, 1) := by decide +kernel
theorem dX11_tenderly_4 : decode cX11_tenderly 4 = .ok (.iconst 1, 1) := by decide +kernel
theorem dX11_tenderly_5 : decode cX11_tenderly 5 = .ok (.invokevirtual 241, 3) := by decide +kernel
theorem dX11_tenderly_8 : decode cX11_tenderly 8 = .ok (.ireturn, 1) := by decide +kernel
theorem dX11_thinks_0 : decode cX11_thinks 0 = .ok (.aload_n 0, 1) := by decide +kernel
theorem dX11_thinks_1 : decode cX11_thinks 1 = .ok (.getfield 19, 3) := by decide +kernel
theorem dX11_thinks_4 : decode cX11_thinks 4 = .ok (.iload_n 1, 1) := by decide +kernel
theorem dX11_thinks_5 : decode cX11_thinks 5 = .ok (.invokevirtual 122, 3) := by decide +kernel
theorem dX11_thinks_8 : decode cX11_thinks 8 = .ok (.ifCond .ne 6, 3) := by decide +kernel
theorem dX11_thinks_11 : decode cX11_thinks 11 = .ok (.bipush (-2), 2) := by decide +kernel
theorem dX11_thinks_13 : decode cX11_thinks 13 = .ok (.ireturn, 1) := by decide +kernel
theorem dX11_truly_0 : decode cX11_truly 0 = .ok (.aload_n 0, 1) := by decide +kernel
theorem dX11_truly_1 : decode cX11_truly 1 = .ok (.getfield 19, 3) := by decide +kernel
theorem dX11_truly_4 : decode cX11_truly 4 = .ok (.iload_n 1, 1) := by decide +kernel
theorem dX11_truly_5 : decode cX11_truly 5 = .ok (.invokevirtual 122, 3) := by decide +kernel
theorem dX11_truly_8 : decode cX11_truly 8 = .ok (.ifCond .eq 13, 3) := by decide +kernel
theorem dX11_truly_21 : decode cX11_truly 21 = .ok (.bipush (-2), 2) := by decide +kernel
theorem dX11_truly_23 : decode cX11_truly 23 = .ok (.ireturn, 1) := by decide +kernel
theorem dX11_undo_0 : decode cX11_undo 0 = .ok (.aload_n 0, 1) := by decide +kernel
theorem dX11_undo_1 : decode cX11_undo 1 = .ok (.getfield 19, 3) := by decide +kernel
theorem dX11_undo_4 : decode cX11_undo 4 = .ok (.invokevirtual 245, 3) := by decide +kernel
theorem dX11_undo_7 : decode cX11_undo 7 = .ok (.ifCond .ne 6, 3) := by decide +kernel
theorem dX11_undo_10 : decode cX11_undo 10 = .ok (.bipush (-2), 2) := by decide +kernel
theorem dX11_undo_12 : decode cX11_undo 12 = .ok (.ireturn, 1) := by decide +kernel
theorem dX11_unsaid_0 : decode cX11_unsaid 0 = .ok (.aload_n 0, 1) := by decide +kernel
theorem dX11_unsaid_1 : decode cX11_unsaid 1 = .ok (.getfield 19, 3) := by decide +kernel
theorem dX11_unsaid_4 : decode cX11_unsaid 4 = .ok (.invokevirtual 245, 3) := by decide +kernel
theorem dX11_unsaid_7 : decode cX11_unsaid 7 = .ok (.ifCond .ne 6, 3) := by decide +kernel
theorem dX11_unsaid_10 : decode cX11_unsaid 10 = .ok (.bipush (-2), 2) := by decide +kernel
theorem dX11_unsaid_12 : decode cX11_unsaid 12 = .ok (.ireturn, 1) := by decide +kernel
theorem dX11_whom_0 : decode cX11_whom 0 = .ok (.aload_n 0, 1) := by decide +kernel
theorem dX11_whom_1 : decode cX11_whom 1 = .ok (.getfield 19, 3) := by decide +kernel
theorem dX11_whom_4 : decode cX11_whom 4 = .ok (.invokevirtual 245, 3) := by decide +kernel
theorem dX11_whom_7 : decode cX11_whom 7 = .ok (.ifCond .eq 16, 3) := by decide +kernel
theorem dX11_whom_23 : decode cX11_whom 23 = .ok (.bipush (-2), 2) := by decide +kernel
theorem dX11_whom_25 : decode cX11_whom 25 = .ok (.ireturn, 1) := by decide +kernel
theorem dX11_word_0 : decode cX11_word 0 = .ok (.aload_n 0, 1) := by decide +kernel
theorem dX11_word_1 : decode cX11_word 1 = .ok (.getfield 19, 3) := by decide +kernel
theorem dX11_word_4 : decode cX11_word 4 = .ok (.iload_n 1, 1) := by decide +kernel
theorem dX11_word_5 : decode cX11_word 5 = .ok (.invokevirtual 132, 3) := by decide +kernel
theorem dX11_word_8 : decode cX11_word 8 = .ok (.ifCond .ne 6, 3) := by decide +kernel
theorem dX11_word_11 : decode cX11_word 11 = .ok (.bipush (-2), 2) := by decide +kernel
theorem dX11_word_13 : decode cX11_word 13 = .ok (.ireturn, 1) := by decide +kernel
theorem dX11_wordOfBest_0 : decode cX11_wordOfBest 0 = .ok (.aload_n 0, 1) := by decide +kernel
theorem dX11_wordOfBest_1 : decode cX11_wordOfBest 1 = .ok (.getfield 19, 3) := by decide +kernel
theorem dX11_wordOfBest_4 : decode cX11_wordOfBest 4 = .ok (.iload_n 1, 1) := by decide +kernel
theorem dX11_wordOfBest_5 : decode cX11_wordOfBest 5 = .ok (.invokevirtual 122, 3) := by decide +kernel
theorem dX11_wordOfBest_8 : decode cX11_wordOfBest 8 = .ok (.ifCond .eq 14, 3) := by decide +kernel
theorem dX11_wordOfBest_22 : decode cX11_wordOfBest 22 = .ok (.bipush (-2), 2) := by decide +kernel
theorem dX11_wordOfBest_24 : decode cX11_wordOfBest 24 = .ok (.ireturn, 1) := by decide +kernel
theorem dX11_worsen_0 : decode cX11_worsen 0 = .ok (.aload_n 0, 1) := by decide +kernel
theorem dX11_worsen_1 : decode cX11_worsen 1 = .ok (.getfield 19, 3) := by decide +kernel
theorem dX11_worsen_4 : decode cX11_worsen 4 = .ok (.iload_n 1, 1) := by decide +kernel
theorem dX11_worsen_5 : decode cX11_worsen 5 = .ok (.invokevirtual 114, 3) := by decide +kernel
theorem dX11_worsen_8 : decode cX11_worsen 8 = .ok (.ifCond .eq 13, 3) := by decide +kernel
theorem dX11_worsen_21 : decode cX11_worsen 21 = .ok (.bipush (-2), 2) := by decide +kernel
theorem dX11_worsen_23 : decode cX11_worsen 23 = .ok (.ireturn, 1) := by decide +kernel
theorem dX11_worst_0 : decode cX11_worst 0 = .ok (.aload_n 0, 1) := by decide +kernel
theorem dX11_worst_1 : decode cX11_worst 1 = .ok (.iload_n 1, 1) := by decide +kernel
theorem dX11_worst_2 : decode cX11_worst 2 = .ok (.iload_n 2, 1) := by decide +kernel
theorem dX11_worst_3 : decode cX11_worst 3 = .ok (.invokevirtual 191, 3) := by decide +kernel
theorem dX11_worst_6 : decode cX11_worst 6 = .ok (.istore_n 3, 1) := by decide +kernel
theorem dX11_worst_7 : decode cX11_worst 7 = .ok (.iload_n 3, 1) := by decide +kernel
theorem dX11_worst_8 : decode cX11_worst 8 = .ok (.ifCond .ge 7, 3) := by decide +kernel
theorem dX11_worst_11 : decode cX11_worst 11 = .ok (.iload_n 3, 1) := by decide +kernel
theorem dX11_worst_12 : decode cX11_worst 12 = .ok (.goto 10, 3) := by decide +kernel
theorem dX11_worst_22 : decode cX11_worst 22 = .ok (.ireturn, 1) := by decide +kernel
def sp_slot (x : Int32) : Int32 := if 0 ≤ x.toInt ∧ x.toInt ≤ 3 then 1 else 0
def sp_seed (x : Int32) : Int32 := if 0 ≤ x.toInt ∧ x.toInt ≤ 2000000000 then 1 else 0
