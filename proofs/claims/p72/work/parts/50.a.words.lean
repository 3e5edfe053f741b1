theorem b_801 : Cond.fieldLink RX12 9 "GentleLettersModel" "world" "[I" ∈ BIG := bi (tin_6 _ (List.mem_of_getElem? (i := 102) rfl)) rfl
theorem b_802 : Cond.methodLink RX12 67 yX12_in ∈ BIG := bi (tin_6 _ (List.mem_of_getElem? (i := 194) rfl)) rfl
theorem b_803 : Cond.methodLink RX12 71 yX12_isWord ∈ BIG := bi (tin_7 _ (List.mem_of_getElem? (i := 103) rfl)) rfl
theorem b_804 : Cond.constantLong RX12 75 (8) ∈ BIG := bi (tin_7 _ (List.mem_of_getElem? (i := 187) rfl)) rfl
theorem b_805 : Cond.methodLink RX12 77 yX12_isDesk ∈ BIG := bi (tin_7 _ (List.mem_of_getElem? (i := 150) rfl)) rfl
theorem b_806 : Cond.methodLink RX12 81 yX12_allStates ∈ BIG := bi (tin_7 _ (List.mem_of_getElem? (i := 154) rfl)) rfl
theorem b_807 : Cond.code yX12_allStates cX12_allStates 1 (some .int) ∈ BIG := bi (tin_7 _ (List.mem_of_getElem? (i := 157) rfl)) rfl
theorem b_808 : Cond.instanceMethod yX12_allStates ∈ BIG := bi (tin_7 _ (List.mem_of_getElem? (i := 156) rfl)) rfl
theorem b_809 : Cond.selects RX12 yX12_allStates yX12_allStates ∈ BIG := bi (sin_9 _ (List.mem_map.mpr ⟨(yX12_allStates, 29), List.mem_of_getElem? (i := 3) rfl, rfl⟩)) rfl
theorem b_810 : Cond.initialized RX12 ∈ BIG := bi (tin_1 _ (List.mem_of_getElem? (i := 13) rfl)) rfl
theorem b_811 : Cond.code yX12_in cX12_in 6 (some .boolean) ∈ BIG := bi (tin_6 _ (List.mem_of_getElem? (i := 196) rfl)) rfl
theorem b_812 : Cond.static yX12_in ∈ BIG := bi (tin_6 _ (List.mem_of_getElem? (i := 195) rfl)) rfl
theorem b_813 : Cond.code yX12_isDesk cX12_isDesk 1 (some .boolean) ∈ BIG := bi (tin_7 _ (List.mem_of_getElem? (i := 153) rfl)) rfl
theorem b_814 : Cond.instanceMethod yX12_isDesk ∈ BIG := bi (tin_7 _ (List.mem_of_getElem? (i := 152) rfl)) rfl
theorem b_815 : Cond.selects RX12 yX12_isDesk yX12_isDesk ∈ BIG := bi (sin_9 _ (List.mem_map.mpr ⟨(yX12_isDesk, 29), List.mem_of_getElem? (i := 2) rfl, rfl⟩)) rfl
theorem b_816 : Cond.code yX12_isWord cX12_isWord 3 (some .boolean) ∈ BIG := bi (tin_7 _ (List.mem_of_getElem? (i := 106) rfl)) rfl
theorem b_817 : Cond.instanceMethod yX12_isWord ∈ BIG := bi (tin_7 _ (List.mem_of_getElem? (i := 105) rfl)) rfl
theorem b_818 : Cond.selects RX12 yX12_isWord yX12_isWord ∈ BIG := bi (sin_8 _ (List.mem_map.mpr ⟨(yX12_isWord, 29), List.mem_of_getElem? (i := 11) rfl, rfl⟩)) rfl
theorem b_819 : Cond.lays RX12 RX12 "thrown" "I" ∈ BIG := bi (tin_6 _ (List.mem_of_getElem? (i := 130) rfl)) rfl
theorem b_820 : Cond.laysFinal RX12 RX12 "world" "[I" ∈ BIG := bi (tin_6 _ (List.mem_of_getElem? (i := 132) rfl)) rfl
theorem b_821 : Cond.laysFinal RX12 RX12 "images" "[I" ∈ BIG := bi (tin_6 _ (List.mem_of_getElem? (i := 134) rfl)) rfl
theorem b_822 : Cond.laysFinal RX12 RX12 "hasImage" "[Z" ∈ BIG := bi (tin_6 _ (List.mem_of_getElem? (i := 136) rfl)) rfl
theorem b_823 : Cond.laysFinal RX12 RX12 "tape" "[B" ∈ BIG := bi (tin_6 _ (List.mem_of_getElem? (i := 138) rfl)) rfl
theorem b_824 : Cond.lays RX12 RX12 "taped" "I" ∈ BIG := bi (tin_6 _ (List.mem_of_getElem? (i := 140) rfl)) rfl
theorem b_825 : Cond.laysFinal RX12 RX12 "five" "[I" ∈ BIG := bi (tin_6 _ (List.mem_of_getElem? (i := 142) rfl)) rfl
theorem b_826 : Cond.lays RX12 RX12 "size" "I" ∈ BIG := bi (tin_6 _ (List.mem_of_getElem? (i := 144) rfl)) rfl
theorem b_827 : Cond.lays RX12 RX12 "at" "I" ∈ BIG := bi (tin_6 _ (List.mem_of_getElem? (i := 146) rfl)) rfl
theorem b_828 : Cond.lays RX12 RX12 "from" "I" ∈ BIG := bi (tin_6 _ (List.mem_of_getElem? (i := 148) rfl)) rfl
theorem b_829 : Cond.lays RX12 RX12 "token" "I" ∈ BIG := bi (tin_6 _ (List.mem_of_getElem? (i := 150) rfl)) rfl
theorem b_830 : Cond.lays RX12 RX12 "value" "I" ∈ BIG := bi (tin_6 _ (List.mem_of_getElem? (i := 152) rfl)) rfl
theorem b_831 : Cond.lays RX12 RX12 "faultKind" "I" ∈ BIG := bi (tin_6 _ (List.mem_of_getElem? (i := 154) rfl)) rfl
theorem b_832 : Cond.lays RX12 RX12 "faultPlace" "I" ∈ BIG := bi (tin_6 _ (List.mem_of_getElem? (i := 156) rfl)) rfl
theorem b_833 : Cond.laysFinal RX12 RX12 "fresh" "[I" ∈ BIG := bi (tin_6 _ (List.mem_of_getElem? (i := 158) rfl)) rfl
theorem b_834 : Cond.laysFinal RX12 RX12 "best" "[I" ∈ BIG := bi (tin_6 _ (List.mem_of_getElem? (i := 160) rfl)) rfl
theorem b_835 : Cond.lays RX12 RX12 "goal" "I" ∈ BIG := bi (tin_6 _ (List.mem_of_getElem? (i := 162) rfl)) rfl
theorem b_836 : Cond.lays RX12 RX12 "goalDays" "I" ∈ BIG := bi (tin_6 _ (List.mem_of_getElem? (i := 164) rfl)) rfl
theorem b_837 : Cond.lays RX12 RX12 "goalHearer" "I" ∈ BIG := bi (tin_6 _ (List.mem_of_getElem? (i := 166) rfl)) rfl
theorem b_838 : Cond.laysFinal RX12 RX12 "order" "[I" ∈ BIG := bi (tin_6 _ (List.mem_of_getElem? (i := 168) rfl)) rfl
theorem b_839 : Cond.laysFinal RX12 RX12 "bestOrder" "[I" ∈ BIG := bi (tin_6 _ (List.mem_of_getElem? (i := 170) rfl)) rfl
theorem b_840 : Cond.lays RX12 RX12 "leastOrder" "I" ∈ BIG := bi (tin_6 _ (List.mem_of_getElem? (i := 172) rfl)) rfl
theorem b_841 : Cond.lays RX12 RX12 "wordsMany" "I" ∈ BIG := bi (tin_6 _ (List.mem_of_getElem? (i := 174) rfl)) rfl
theorem b_842 : Cond.laysFinal RX12 RX12 "letters" "[I" ∈ BIG := bi (tin_6 _ (List.mem_of_getElem? (i := 176) rfl)) rfl
theorem b_843 : Cond.laysFinal RX12 RX12 "bestLetters" "[I" ∈ BIG := bi (tin_6 _ (List.mem_of_getElem? (i := 178) rfl)) rfl
theorem b_844 : Cond.laysFinal RX12 RX12 "many" "[I" ∈ BIG := bi (tin_6 _ (List.mem_of_getElem? (i := 180) rfl)) rfl
theorem b_845 : Cond.laysFinal RX12 RX12 "width" "[I" ∈ BIG := bi (tin_6 _ (List.mem_of_getElem? (i := 182) rfl)) rfl
theorem b_846 : Cond.laysFinal RX12 RX12 "numbers" "[J" ∈ BIG := bi (tin_6 _ (List.mem_of_getElem? (i := 184) rfl)) rfl
theorem b_847 : Cond.laysFinal RX12 RX12 "moving" "[J" ∈ BIG := bi (tin_6 _ (List.mem_of_getElem? (i := 186) rfl)) rfl
theorem m_yX12_allStates : MV yX12_allStates cX12_allStates 1 (some .int) 0 := ⟨b_807, b_808, b_809, b_810, by decide +kernel⟩
theorem m_yX12_in : MS yX12_in cX12_in 6 (some .boolean) 3 := ⟨b_811, b_812, b_810, by decide +kernel⟩
theorem m_yX12_isDesk : MV yX12_isDesk cX12_isDesk 1 (some .boolean) 0 := ⟨b_813, b_814, b_815, b_810, by decide +kernel⟩
theorem m_yX12_isWord : MV yX12_isWord cX12_isWord 3 (some .boolean) 1 := ⟨b_816, b_817, b_818, b_810, by decide +kernel⟩
theorem i_X12 : ∀ w ∈ u_ws RX12 TX12 29, w ∈ BIG := fun w hw => by
  obtain ⟨k, hk, rfl⟩ := List.mem_map.mp hw
  have hk := List.mem_range.mp hk
  match k, hk with
  | 0, _ => exact b_819
  | 1, _ => exact b_820
  | 2, _ => exact b_821
  | 3, _ => exact b_822
  | 4, _ => exact b_823
  | 5, _ => exact b_824
  | 6, _ => exact b_825
  | 7, _ => exact b_826
  | 8, _ => exact b_827
  | 9, _ => exact b_828
  | 10, _ => exact b_829
  | 11, _ => exact b_830
  | 12, _ => exact b_831
  | 13, _ => exact b_832
  | 14, _ => exact b_833
  | 15, _ => exact b_834
  | 16, _ => exact b_835
  | 17, _ => exact b_836
  | 18, _ => exact b_837
  | 19, _ => exact b_838
  | 20, _ => exact b_839
  | 21, _ => exact b_840
  | 22, _ => exact b_841
  | 23, _ => exact b_842
  | 24, _ => exact b_843
  | 25, _ => exact b_844
  | 26, _ => exact b_845
  | 27, _ => exact b_846
  | 28, _ => exact b_847
  | k + 29, hk => exact absurd hk (by omega)
theorem dX12_allHearers_0 : decode cX12_allHearers 0 = .ok (.iconst 1, 1) := by decide +kernel
theorem dX12_allHearers_1 : decode cX12_allHearers 1 = .ok (.aload_n 0, 1) := by decide +kernel
theorem dX12_allHearers_2 : decode cX12_allHearers 2 = .ok (.getfield 9, 3) := by decide +kernel
theorem dX12_allHearers_5 : decode cX12_allHearers 5 = .ok (.iconst 5, 1) := by decide +kernel
theorem dX12_allHearers_6 : decode cX12_allHearers 6 = .ok (.iaload, 1) := by decide +kernel
theorem dX12_allHearers_7 : decode cX12_allHearers 7 = .ok (.ishl, 1) := by decide +kernel
theorem dX12_allHearers_8 : decode cX12_allHearers 8 = .ok (.iconst 1, 1) := by decide +kernel
theorem dX12_allHearers_9 : decode cX12_allHearers 9 = .ok (.isub, 1) := by decide +kernel
theorem dX12_allHearers_10 : decode cX12_allHearers 10 = .ok (.ireturn, 1) := by decide +kernel
theorem dX12_allStates_0 : decode cX12_allStates 0 = .ok (.iconst 1, 1) := by decide +kernel
theorem dX12_allStates_1 : decode cX12_allStates 1 = .ok (.aload_n 0, 1) := by decide +kernel
theorem dX12_allStates_2 : decode cX12_allStates 2 = .ok (.getfield 9, 3) := by decide +kernel
theorem dX12_allStates_5 : decode cX12_allStates 5 = .ok (.iconst 0, 1) := by decide +kernel
theorem dX12_allStates_6 : decode cX12_allStates 6 = .ok (.iaload, 1) := by decide +kernel
theorem dX12_allStates_7 : decode cX12_allStates 7 = .ok (.ishl, 1) := by decide +kernel
theorem dX12_allStates_8 : decode cX12_allStates 8 = .ok (.iconst 1, 1) := by decide +kernel
theorem dX12_allStates_9 : decode cX12_allStates 9 = .ok (.isub, 1) := by decide +kernel
theorem dX12_allStates_10 : decode cX12_allStates 10 = .ok (.ireturn, 1) := by decide +kernel
theorem dX12_bit_0 : decode cX12_bit 0 = .ok (.iload_n 0, 1) := by decide +kernel
theorem dX12_bit_1 : decode cX12_bit 1 = .ok (.iload_n 1, 1) := by decide +kernel
theorem dX12_bit_2 : decode cX12_bit 2 = .ok (.ishr, 1) := by decide +kernel
theorem dX12_bit_3 : decode cX12_bit 3 = .ok (.iconst 1, 1) := by decide +kernel
theorem dX12_bit_4 : decode cX12_bit 4 = .ok (.iand, 1) := by decide +kernel
theorem dX12_bit_5 : decode cX12_bit 5 = .ok (.ireturn, 1) := by decide +kernel
theorem dX12_bits_0 : decode cX12_bits 0 = .ok (.iconst 0, 1) := by decide +kernel
theorem dX12_bits_1 : decode cX12_bits 1 = .ok (.istore_n 1, 1) := by decide +kernel
theorem dX12_bits_2 : decode cX12_bits 2 = .ok (.iconst 0, 1) := by decide +kernel
theorem dX12_bits_3 : decode cX12_bits 3 = .ok (.istore_n 2, 1) := by decide +kernel
theorem dX12_bits_4 : decode cX12_bits 4 = .ok (.iload_n 2, 1) := by decide +kernel
theorem dX12_bits_5 : decode cX12_bits 5 = .ok (.bipush 8, 2) := by decide +kernel
theorem dX12_bits_7 : decode cX12_bits 7 = .ok (.if_icmp .ge 17, 3) := by decide +kernel
theorem dX12_bits_10 : decode cX12_bits 10 = .ok (.iload_n 1, 1) := by decide +kernel
theorem dX12_bits_11 : decode cX12_bits 11 = .ok (.iload_n 0, 1) := by decide +kernel
theorem dX12_bits_12 : decode cX12_bits 12 = .ok (.iload_n 2, 1) := by decide +kernel
theorem dX12_bits_13 : decode cX12_bits 13 = .ok (.ishr, 1) := by decide +kernel
theorem dX12_bits_14 : decode cX12_bits 14 = .ok (.iconst 1, 1) := by decide +kernel
theorem dX12_bits_15 : decode cX12_bits 15 = .ok (.iand, 1) := by decide +kernel
theorem dX12_bits_16 : decode cX12_bits 16 = .ok (.iadd, 1) := by decide +kernel
theorem dX12_bits_17 : decode cX12_bits 17 = .ok (.istore_n 1, 1) := by decide +kernel
theorem dX12_bits_18 : decode cX12_bits 18 = .ok (.iinc 2 1, 3) := by decide +kernel
theorem dX12_bits_21 : decode cX12_bits 21 = .ok (.goto (-17), 3) := by decide +kernel
theorem dX12_bits_24 : decode cX12_bits 24 = .ok (.iload_n 1, 1) := by decide +kernel
theorem dX12_bits_25 : decode cX12_bits 25 = .ok (.ireturn, 1) := by decide +kernel
theorem dX12_in_0 : decode cX12_in 0 = .ok (.lload_n 0, 1) := by decide +kernel
theorem dX12_in_1 : decode cX12_in 1 = .ok (.lload_n 2, 1) := by decide +kernel
theorem dX12_in_2 : decode cX12_in 2 = .ok (.lcmp, 1) := by decide +kernel
theorem dX12_in_3 : decode cX12_in 3 = .ok (.ifCond .lt 14, 3) := by decide +kernel
theorem dX12_in_6 : decode cX12_in 6 = .ok (.lload_n 0, 1) := by decide +kernel
theorem dX12_in_7 : decode cX12_in 7 = .ok (.lload 4, 2) := by decide +kernel
theorem dX12_in_9 : decode cX12_in 9 = .ok (.lcmp, 1) := by decide +kernel
theorem dX12_in_10 : decode cX12_in 10 = .ok (.ifCond .gt 7, 3) := by decide +kernel
theorem dX12_in_13 : decode cX12_in 13 = .ok (.iconst 1, 1) := by decide +kernel
theorem dX12_in_14 : decode cX12_in 14 = .ok (.goto 4, 3) := by decide +kernel
theorem dX12_in_17 : decode cX12_in 17 = .ok (.iconst 0, 1) := by decide +kernel
theorem dX12_in_18 : decode cX12_in 18 = .ok (.ireturn, 1) := by decide +kernel
theorem dX12_isBelief_0 : decode cX12_isBelief 0 = .ok (.aload_n 0, 1) := by decide +kernel
theorem dX12_isBelief_1 : decode cX12_isBelief 1 = .ok (.invokevirtual 77, 3) := by decide +kernel
theorem dX12_isBelief_4 : decode cX12_isBelief 4 = .ok (.ifCond .eq 21, 3) := by decide +kernel
theorem dX12_isBelief_7 : decode cX12_isBelief 7 = .ok (.iload_n 1, 1) := by decide +kernel
theorem dX12_isBelief_8 : decode cX12_isBelief 8 = .ok (.i2l, 1) := by decide +kernel
theorem dX12_isBelief_9 : decode cX12_isBelief 9 = .ok (.lconst 1, 1) := by decide +kernel
theorem dX12_isBelief_10 : decode cX12_isBelief 10 = .ok (.aload_n 0, 1) := by decide +kernel
theorem dX12_isBelief_11 : decode cX12_isBelief 11 = .ok (.invokevirtual 81, 3) := by decide +kernel
theorem dX12_isBelief_14 : decode cX12_isBelief 14 = .ok (.i2l, 1) := by decide +kernel
theorem dX12_isBelief_15 : decode cX12_isBelief 15 = .ok (.invokestatic 67, 3) := by decide +kernel
theorem dX12_isBelief_18 : decode cX12_isBelief 18 = .ok (.ifCond .eq 7, 3) := by decide +kernel
theorem dX12_isBelief_21 : decode cX12_isBelief 21 = .ok (.iconst 1, 1) := by decide +kernel
theorem dX12_isBelief_22 : decode cX12_isBelief 22 = .ok (.goto 4, 3) := by decide +kernel
theorem dX12_isBelief_25 : decode cX12_isBelief 25 = .ok (.iconst 0, 1) := by decide +kernel
theorem dX12_isBelief_26 : decode cX12_isBelief 26 = .ok (.ireturn, 1) := by decide +kernel
theorem dX12_isDay_0 : decode cX12_isDay 0 = .ok (.iload_n 1, 1) := by decide +kernel
theorem dX12_isDay_1 : decode cX12_isDay 1 = .ok (.i2l, 1) := by decide +kernel
theorem dX12_isDay_2 : decode cX12_isDay 2 = .ok (.lconst 0, 1) := by decide +kernel
theorem dX12_isDay_3 : decode cX12_isDay 3 = .ok (.aload_n 0, 1) := by decide +kernel
theorem dX12_isDay_4 : decode cX12_isDay 4 = .ok (.getfield 9, 3) := by decide +kernel
theorem dX12_isDay_7 : decode cX12_isDay 7 = .ok (.iconst 2, 1) := by decide +kernel
theorem dX12_isDay_8 : decode cX12_isDay 8 = .ok (.iaload, 1) := by decide +kernel
theorem dX12_isDay_9 : decode cX12_isDay 9 = .ok (.iconst 1, 1) := by decide +kernel
theorem dX12_isDay_10 : decode cX12_isDay 10 = .ok (.isub, 1) := by decide +kernel
theorem dX12_isDay_11 : decode cX12_isDay 11 = .ok (.i2l, 1) := by decide +kernel
theorem dX12_isDay_12 : decode cX12_isDay 12 = .ok (.invokestatic 67, 3) := by decide +kernel
theorem dX12_isDay_15 : decode cX12_isDay 15 = .ok (.ireturn, 1) := by decide +kernel
theorem dX12_isDesk_0 : decode cX12_isDesk 0 = .ok (.aload_n 0, 1) := by decide +kernel
theorem dX12_isDesk_1 : decode cX12_isDesk 1 = .ok (.getfield 9, 3) := by decide +kernel
theorem dX12_isDesk_4 : decode cX12_isDesk 4 = .ok (.bipush 9, 2) := by decide +kernel
theorem dX12_isDesk_6 : decode cX12_isDesk 6 = .ok (.iaload, 1) := by decide +kernel
theorem dX12_isDesk_7 : decode cX12_isDesk 7 = .ok (.ifCond .le 7, 3) := by decide +kernel
theorem dX12_isDesk_10 : decode cX12_isDesk 10 = .ok (.iconst 1, 1) := by decide +kernel
theorem dX12_isDesk_11 : decode cX12_isDesk 11 = .ok (.goto 4, 3) := by decide +kernel
theorem dX12_isDesk_14 : decode cX12_isDesk 14 = .ok (.iconst 0, 1) := by decide +kernel
theorem dX12_isDesk_15 : decode cX12_isDesk 15 = .ok (.ireturn, 1) := by decide +kernel
theorem dX12_isHearer_0 : decode cX12_isHearer 0 = .ok (.iload_n 1, 1) := by decide +kernel
theorem dX12_isHearer_1 : decode cX12_isHearer 1 = .ok (.i2l, 1) := by decide +kernel
theorem dX12_isHearer_2 : decode cX12_isHearer 2 = .ok (.lconst 0, 1) := by decide +kernel
theorem dX12_isHearer_3 : decode cX12_isHearer 3 = .ok (.aload_n 0, 1) := by decide +kernel
theorem dX12_isHearer_4 : decode cX12_isHearer 4 = .ok (.getfield 9, 3) := by decide +kernel
theorem dX12_isHearer_7 : decode cX12_isHearer 7 = .ok (.iconst 5, 1) := by decide +kernel
theorem dX12_isHearer_8 : decode cX12_isHearer 8 = .ok (.iaload, 1) := by decide +kernel
theorem dX12_isHearer_9 : decode cX12_isHearer 9 = .ok (.iconst 1, 1) := by decide +kernel
theorem dX12_isHearer_10 : decode cX12_isHearer 10 = .ok (.isub, 1) := by decide +kernel
theorem dX12_isHearer_11 : decode cX12_isHearer 11 = .ok (.i2l, 1) := by decide +kernel
theorem dX12_isHearer_12 : decode cX12_isHearer 12 = .ok (.invokestatic 67, 3) := by decide +kernel
theorem dX12_isHearer_15 : decode cX12_isHearer 15 = .ok (.ireturn, 1) := by decide +kernel
theorem dX12_isPlan_0 : decode cX12_isPlan 0 = .ok (.iload_n 1, 1) := by decide +kernel
theorem dX12_isPlan_1 : decode cX12_isPlan 1 = .ok (.i2l, 1) := by decide +kernel
theorem dX12_isPlan_2 : decode cX12_isPlan 2 = .ok (.lconst 0, 1) := by decide +kernel
theorem dX12_isPlan_3 : decode cX12_isPlan 3 = .ok (.aload_n 0, 1) := by decide +kernel
theorem dX12_isPlan_4 : decode cX12_isPlan 4 = .ok (.getfield 9, 3) := by decide +kernel
theorem dX12_isPlan_7 : decode cX12_isPlan 7 = .ok (.bipush 7, 2) := by decide +kernel
theorem dX12_isPlan_9 : decode cX12_isPlan 9 = .ok (.iaload, 1) := by decide +kernel
theorem dX12_isPlan_10 : decode cX12_isPlan 10 = .ok (.iconst 1, 1) := by decide +kernel
theorem dX12_isPlan_11 : decode cX12_isPlan 11 = .ok (.isub, 1) := by decide +kernel
theorem dX12_isPlan_12 : decode cX12_isPlan 12 = .ok (.i2l, 1) := by decide +kernel
theorem dX12_isPlan_13 : decode cX12_isPlan 13 = .ok (.invokestatic 67, 3) := by decide +kernel
theorem dX12_isPlan_16 : decode cX12_isPlan 16 = .ok (.ireturn, 1) := by decide +kernel
theorem dX12_isState_0 : decode cX12_isState 0 = .ok (.iload_n 1, 1) := by decide +kernel
theorem dX12_isState_1 : decode cX12_isState 1 = .ok (.i2l, 1) := by decide +kernel
theorem dX12_isState_2 : decode cX12_isState 2 = .ok (.lconst 0, 1) := by decide +kernel
theorem dX12_isState_3 : decode cX12_isState 3 = .ok (.aload_n 0, 1) := by decide +kernel
theorem dX12_isState_4 : decode cX12_isState 4 = .ok (.getfield 9, 3) := by decide +kernel
theorem dX12_isState_7 : decode cX12_isState 7 = .ok (.iconst 0, 1) := by decide +kernel
theorem dX12_isState_8 : decode cX12_isState 8 = .ok (.iaload, 1) := by decide +kernel
theorem dX12_isState_9 : decode cX12_isState 9 = .ok (.iconst 1, 1) := by decide +kernel
theorem dX12_isState_10 : decode cX12_isState 10 = .ok (.isub, 1) := by decide +kernel
theorem dX12_isState_11 : decode cX12_isState 11 = .ok (.i2l, 1) := by decide +kernel
theorem dX12_isState_12 : decode cX12_isState 12 = .ok (.invokestatic 67, 3) := by decide +kernel
theorem dX12_isState_15 : decode cX12_isState 15 = .ok (.ireturn, 1) := by decide +kernel
theorem dX12_isTold_0 : decode cX12_isTold 0 = .ok (.aload_n 0, 1) := by decide +kernel
theorem dX12_isTold_1 : decode cX12_isTold 1 = .ok (.lload_n 1, 1) := by decide +kernel
theorem dX12_isTold_2 : decode cX12_isTold 2 = .ok (.invokevirtual 71, 3) := by decide +kernel
theorem dX12_isTold_5 : decode cX12_isTold 5 = .ok (.ifCond .ne 11, 3) := by decide +kernel
theorem dX12_isTold_8 : decode cX12_isTold 8 = .ok (.lload_n 1, 1) := by decide +kernel
theorem dX12_isTold_9 : decode cX12_isTold 9 = .ok (.ldc2_w 75, 3) := by decide +kernel
theorem dX12_isTold_12 : decode cX12_isTold 12 = .ok (.lcmp, 1) := by decide +kernel
theorem dX12_isTold_13 : decode cX12_isTold 13 = .ok (.ifCond .ne 7, 3) := by decide +kernel
theorem dX12_isTold_16 : decode cX12_isTold 16 = .ok (.iconst 1, 1) := by decide +kernel
theorem dX12_isTold_17 : decode cX12_isTold 17 = .ok (.goto 4, 3) := by decide +kernel
theorem dX12_isTold_20 : decode cX12_isTold 20 = .ok (.iconst 0, 1) := by decide +kernel
theorem dX12_isTold_21 : decode cX12_isTold 21 = .ok (.ireturn, 1) := by decide +kernel
theorem dX12_isWord_0 : decode cX12_isWord 0 = .ok (.lload_n 1, 1) := by decide +kernel
theorem dX12_isWord_1 : decode cX12_isWord 1 = .ok (.lconst 0, 1) := by decide +kernel
theorem dX12_isWord_2 : decode cX12_isWord 2 = .ok (.aload_n 0, 1) := by decide +kernel
theorem dX12_isWord_3 : decode cX12_isWord 3 = .ok (.getfield 9, 3) := by decide +kernel
theorem dX12_isWord_6 : decode cX12_isWord 6 = .ok (.bipush 6, 2) := by decide +kernel
theorem dX12_isWord_8 : decode cX12_isWord 8 = .ok (.iaload, 1) := by decide +kernel
theorem dX12_isWord_9 : decode cX12_isWord 9 = .ok (.iconst 1, 1) := by decide +kernel
theorem dX12_isWord_10 : decode cX12_isWord 10 = .ok (.isub, 1) := by decide +kernel
theorem dX12_isWord_11 : decode cX12_isWord 11 = .ok (.i2l, 1) := by decide +kernel
theorem dX12_isWord_12 : decode cX12_isWord 12 = .ok (.invokestatic 67, 3) := by decide +kernel
theorem dX12_isWord_15 : decode cX12_isWord 15 = .ok (.ireturn, 1) := by decide +kernel
theorem dX12_reallySet_0 : decode cX12_reallySet 0 = .ok (.iconst 1, 1) := by decide +kernel
theorem dX12_reallySet_1 : decode cX12_reallySet 1 = .ok (.aload_n 0, 1) := by decide +kernel
theorem dX12_reallySet_2 : decode cX12_reallySet 2 = .ok (.getfield 9, 3) := by decide +kernel
theorem dX12_reallySet_5 : decode cX12_reallySet 5 = .ok (.iconst 1, 1) := by decide +kernel
theorem dX12_reallySet_6 : decode cX12_reallySet 6 = .ok (.iaload, 1) := by decide +kernel
theorem dX12_reallySet_7 : decode cX12_reallySet 7 = .ok (.ishl, 1) := by decide +kernel
theorem dX12_reallySet_8 : decode cX12_reallySet 8 = .ok (.ireturn, 1) := by decide +kernel
theorem fb_addL {x y : Int64} (h1 : -9223372036854775808 ≤ x.toInt + y.toInt) (h2 : x.toInt + y.toInt < 9223372036854775808) : (x + y).toInt = x.toInt + y.toInt := by
  rw [Int64.toInt_add, Int.bmod_eq_of_le (by omega) (by omega)]
theorem div_k {x y : Int32} {c : Int} (h1 : 0 ≤ x.toInt) (h2 : y.toInt = c) (h3 : 1 ≤ c) : (x / y).toInt = x.toInt / c := by
  obtain ⟨j, hj, rfl⟩ : ∃ j : Nat, j < 2 ^ 31 ∧ x = nI j := ⟨x.toInt.toNat, by have := fb_rng x; omega, Int32.toInt_inj.mp (by have := fb_rng x; rw [nI_toInt (by omega)]; omega)⟩
  obtain ⟨k, hk, rfl⟩ : ∃ j : Nat, j < 2 ^ 31 ∧ y = nI j := ⟨y.toInt.toNat, by have := fb_rng y; omega, Int32.toInt_inj.mp (by have := fb_rng y; rw [nI_toInt (by omega)]; omega)⟩
  rw [nI_toInt hk] at h2
  have hm : j / k ≤ j := Nat.div_le_self _ _
  rw [pk_div hj (by omega) hk, ← h2, nI_toInt hj, nI_toInt (by omega)]
  exact Int.natCast_ediv j k
/-! the reference's world row -/
def wch (c o : Int32) : Prop := (c.toInt = 1 ∧ 0 ≤ o.toInt ∧ o.toInt ≤ 7) ∨ (11 ≤ c.toInt ∧ c.toInt ≤ 54 ∧ 0 ≤ o.toInt ∧ o.toInt ≤ 99)
def wk_a (f : Nat → Int32) : Prop := (0 ≤ (f 0).toInt ∧ (f 0).toInt ≤ 8) ∧ (0 ≤ (f 1).toInt ∧ (f 1).toInt ≤ 7) ∧ (0 ≤ (f 2).toInt ∧ (f 2).toInt ≤ 10) ∧ (0 ≤ (f 5).toInt ∧ (f 5).toInt ≤ 4) ∧ (0 ≤ (f 6).toInt ∧ (f 6).toInt ≤ 8) ∧ (0 ≤ (f 7).toInt ∧ (f 7).toInt ≤ 4) ∧ (0 ≤ (f 8).toInt ∧ (f 8).toInt ≤ 6) ∧ (0 ≤ (f 10).toInt ∧ (f 10).toInt ≤ 60)
def wk_b (f : Nat → Int32) : Prop := ∀ j : Nat, 11 ≤ j → j ≤ 54 → 0 ≤ (f j).toInt ∧ (f j).toInt ≤ 99
def wk_c (f : Nat → Int32) : Prop := ∀ w : Nat, w < 8 → 0 ≤ (f (56 + 2 * w)).toInt ∧ (f (56 + 2 * w)).toInt ≤ 255 ∧ ((w : Int) < (f 6).toInt → 1 ≤ (f (56 + 2 * w)).toInt)
def wk_d (f : Nat → Int32) : Prop := ∀ q : Nat, q < 4 → 0 ≤ (f (71 + 6 * q)).toInt ∧ (f (71 + 6 * q)).toInt ≤ 5
def wk_e (f : Nat → Int32) : Prop := ∀ q i : Nat, q < 4 → i < 5 → (i : Int) < (f (71 + 6 * q)).toInt → 0 ≤ (f (72 + 6 * q + i)).toInt ∧ (f (72 + 6 * q + i)).toInt < (f 6).toInt
def wk_f (f : Nat → Int32) : Prop := ∀ k : Nat, k < 60 → (k : Int) < (f 10).toInt → wch (f (105 + 2 * k)) (f (106 + 2 * k))
/-- what the world row keeps to -/
def wok (f : Nat → Int32) : Prop := wk_a f ∧ wk_b f ∧ wk_c f ∧ wk_d f ∧ wk_e f ∧ wk_f f
theorem wk_0 {f : Nat → Int32} (h : wok f) : 0 ≤ (f 0).toInt ∧ (f 0).toInt ≤ 8 := h.1.1
theorem wk_1 {f : Nat → Int32} (h : wok f) : 0 ≤ (f 1).toInt ∧ (f 1).toInt ≤ 7 := h.1.2.1
theorem wk_2 {f : Nat → Int32} (h : wok f) : 0 ≤ (f 2).toInt ∧ (f 2).toInt ≤ 10 := h.1.2.2.1
theorem wk_5 {f : Nat → Int32} (h : wok f) : 0 ≤ (f 5).toInt ∧ (f 5).toInt ≤ 4 := h.1.2.2.2.1
theorem wk_6 {f : Nat → Int32} (h : wok f) : 0 ≤ (f 6).toInt ∧ (f 6).toInt ≤ 8 := h.1.2.2.2.2.1
theorem wk_7 {f : Nat → Int32} (h : wok f) : 0 ≤ (f 7).toInt ∧ (f 7).toInt ≤ 4 := h.1.2.2.2.2.2.1
theorem wk_8 {f : Nat → Int32} (h : wok f) : 0 ≤ (f 8).toInt ∧ (f 8).toInt ≤ 6 := h.1.2.2.2.2.2.2.1
theorem wk_10 {f : Nat → Int32} (h : wok f) : 0 ≤ (f 10).toInt ∧ (f 10).toInt ≤ 60 := h.1.2.2.2.2.2.2.2
theorem ixe {x : Int32} {n : Nat} (h : x.toInt = (n : Int)) : x.toNatClampNeg = n := by
  unfold Int32.toNatClampNeg
  omega
theorem wk_g {f : Nat → Int32} (h : wok f) {x : Int32} (h1 : 11 ≤ x.toInt) (h2 : x.toInt ≤ 54) : 0 ≤ (f x.toNatClampNeg).toInt ∧ (f x.toNatClampNeg).toInt ≤ 99 := by
  rw [ixe (x := x) (n := x.toInt.toNat) (by omega)]
  exact h.2.1 _ (by omega) (by omega)
/-- a word's states, a plan's length, a plan's word -/
def ofF (f : Nat → Int32) (w : Int32) : Int32 := f (56 + 2 * w.toInt.toNat)
def pmF (f : Nat → Int32) (q : Int32) : Int32 := f (71 + 6 * q.toInt.toNat)
def pwF (f : Nat → Int32) (q i : Int32) : Int32 := f (72 + 6 * q.toInt.toNat + i.toInt.toNat)
theorem of_b {f : Nat → Int32} (h : wok f) {w : Int32} (h1 : 0 ≤ w.toInt) (h2 : w.toInt ≤ 7) : 0 ≤ (ofF f w).toInt ∧ (ofF f w).toInt ≤ 255 ∧ (w.toInt < (f 6).toInt → 1 ≤ (ofF f w).toInt) := by
  obtain ⟨q1, q2, q3⟩ := h.2.2.1 w.toInt.toNat (by omega)
  exact ⟨q1, q2, fun q => q3 (by omega)⟩
theorem pm_b {f : Nat → Int32} (h : wok f) {q : Int32} (h1 : 0 ≤ q.toInt) (h2 : q.toInt ≤ 3) : 0 ≤ (pmF f q).toInt ∧ (pmF f q).toInt ≤ 5 := h.2.2.2.1 _ (by omega)
theorem pw_b {f : Nat → Int32} (h : wok f) {q i : Int32} (h1 : 0 ≤ q.toInt) (h2 : q.toInt ≤ 3) (h3 : 0 ≤ i.toInt) (h4 : i.toInt < (pmF f q).toInt) : 0 ≤ (pwF f q i).toInt ∧ (pwF f q i).toInt < (f 6).toInt := by
  have h5 := pm_b h h1 h2
  exact h.2.2.2.2.1 q.toInt.toNat i.toInt.toNat (by omega) (by omega) (by unfold pmF at h4; omega)
/-- a store that no part speaks of -/
theorem uo {f : Nat → Int32} {k j : Nat} {v : Int32} (h : j ≠ k) : upd f k v j = f j := pk_un h
theorem wk_free {f : Nat → Int32} (h : wok f) {k : Nat} {v : Int32} (h1 : k ≠ 0 ∧ k ≠ 1 ∧ k ≠ 2 ∧ k ≠ 5 ∧ k ≠ 6 ∧ k ≠ 7 ∧ k ≠ 8 ∧ k ≠ 10) (h2 : k < 11 ∨ (54 < k ∧ k < 71 ∧ k % 2 = 1) ∨ (94 < k ∧ k < 105)) : wok (upd f k v) := by
  obtain ⟨ha, hb, hc, hd, he, hf⟩ := h
  have s6 : upd f k v 6 = f 6 := uo (by omega)
  refine ⟨?_, fun j h3 h4 => ?_, fun w hw => ?_, fun q hq => ?_, fun q i hq hi => ?_, fun n hn => ?_⟩
  · unfold wk_a
    rw [uo (j := 0) (by omega), uo (j := 1) (by omega), uo (j := 2) (by omega), uo (j := 5) (by omega), s6, uo (j := 7) (by omega), uo (j := 8) (by omega), uo (j := 10) (by omega)]
    exact ha
  · rw [uo (by omega)]; exact hb j h3 h4
  · rw [uo (by omega), s6]; exact hc w hw
  · rw [uo (by omega)]; exact hd q hq
  · rw [uo (by omega), uo (by omega), s6]; exact he q i hq hi
  · rw [uo (by omega), uo (by omega), uo (by omega)]; exact hf n hn
/-- grades and thoughts -/
theorem wk_ug {f : Nat → Int32} (h : wok f) {k : Nat} {v : Int32} (h1 : 11 ≤ k ∧ k ≤ 54) (h2 : 0 ≤ v.toInt ∧ v.toInt ≤ 99) : wok (upd f k v) := by
  obtain ⟨ha, hb, hc, hd, he, hf⟩ := h
  have s6 : upd f k v 6 = f 6 := uo (by omega)
  refine ⟨?_, fun j h3 h4 => ?_, fun w hw => ?_, fun q hq => ?_, fun q i hq hi => ?_, fun n hn => ?_⟩
  · unfold wk_a
    rw [uo (j := 0) (by omega), uo (j := 1) (by omega), uo (j := 2) (by omega), uo (j := 5) (by omega), s6, uo (j := 7) (by omega), uo (j := 8) (by omega), uo (j := 10) (by omega)]
    exact ha
  · by_cases q : j = k
    · subst q; rw [pk_us]; exact h2
    · rw [uo q]; exact hb j h3 h4
  · rw [uo (by omega), s6]; exact hc w hw
  · rw [uo (by omega)]; exact hd q hq
  · rw [uo (by omega), uo (by omega), s6]; exact he q i hq hi
  · rw [uo (by omega), uo (by omega), uo (by omega)]; exact hf n hn
/-- the counts that nothing else hangs on: states, really, days, hearers, plans, news -/
theorem wk_uc {f : Nat → Int32} (h : wok f) {k : Nat} {v : Int32} (h1 : (k = 0 ∧ 0 ≤ v.toInt ∧ v.toInt ≤ 8) ∨ (k = 1 ∧ 0 ≤ v.toInt ∧ v.toInt ≤ 7) ∨ (k = 2 ∧ 0 ≤ v.toInt ∧ v.toInt ≤ 10) ∨ (k = 5 ∧ 0 ≤ v.toInt ∧ v.toInt ≤ 4) ∨ (k = 7 ∧ 0 ≤ v.toInt ∧ v.toInt ≤ 4) ∨ (k = 8 ∧ 0 ≤ v.toInt ∧ v.toInt ≤ 6)) : wok (upd f k v) := by
  obtain ⟨ha, hb, hc, hd, he, hf⟩ := h
  have s6 : upd f k v 6 = f 6 := uo (by omega)
  refine ⟨?_, fun j h3 h4 => ?_, fun w hw => ?_, fun q hq => ?_, fun q i hq hi => ?_, fun n hn => ?_⟩
  · unfold wk_a at ha ⊢
    rcases h1 with ⟨rfl, h2⟩ | ⟨rfl, h2⟩ | ⟨rfl, h2⟩ | ⟨rfl, h2⟩ | ⟨rfl, h2⟩ | ⟨rfl, h2⟩
    · rw [pk_us, uo (j := 1) (by decide), uo (j := 2) (by decide), uo (j := 5) (by decide), s6, uo (j := 7) (by decide), uo (j := 8) (by decide), uo (j := 10) (by decide)]; exact ⟨h2, ha.2⟩
    · rw [pk_us, uo (j := 0) (by decide), uo (j := 2) (by decide), uo (j := 5) (by decide), s6, uo (j := 7) (by decide), uo (j := 8) (by decide), uo (j := 10) (by decide)]; exact ⟨ha.1, h2, ha.2.2⟩
    · rw [pk_us, uo (j := 1) (by decide), uo (j := 0) (by decide), uo (j := 5) (by decide), s6, uo (j := 7) (by decide), uo (j := 8) (by decide), uo (j := 10) (by decide)]; exact ⟨ha.1, ha.2.1, h2, ha.2.2.2⟩
    · rw [pk_us, uo (j := 1) (by decide), uo (j := 2) (by decide), uo (j := 0) (by decide), s6, uo (j := 7) (by decide), uo (j := 8) (by decide), uo (j := 10) (by decide)]; exact ⟨ha.1, ha.2.1, ha.2.2.1, h2, ha.2.2.2.2⟩
    · rw [pk_us, uo (j := 1) (by decide), uo (j := 2) (by decide), uo (j := 5) (by decide), s6, uo (j := 0) (by decide), uo (j := 8) (by decide), uo (j := 10) (by decide)]; exact ⟨ha.1, ha.2.1, ha.2.2.1, ha.2.2.2.1, ha.2.2.2.2.1, h2, ha.2.2.2.2.2.2⟩
    · rw [pk_us, uo (j := 1) (by decide), uo (j := 2) (by decide), uo (j := 5) (by decide), s6, uo (j := 7) (by decide), uo (j := 0) (by decide), uo (j := 10) (by decide)]; exact ⟨ha.1, ha.2.1, ha.2.2.1, ha.2.2.2.1, ha.2.2.2.2.1, ha.2.2.2.2.2.1, h2, ha.2.2.2.2.2.2.2⟩
  · rw [uo (by omega)]; exact hb j h3 h4
  · rw [uo (by omega), s6]; exact hc w hw
  · rw [uo (by omega)]; exact hd q hq
  · rw [uo (by omega), uo (by omega), s6]; exact he q i hq hi
  · rw [uo (by omega), uo (by omega), uo (by omega)]; exact hf n hn
/-- one word more, its states told ahead -/
theorem wk_u6 {f : Nat → Int32} (h : wok f) {v : Int32} (h1 : v.toInt = (f 6).toInt + 1) (h2 : (f 6).toInt ≤ 7) (h3 : 1 ≤ (f (56 + 2 * (f 6).toInt.toNat)).toInt) : wok (upd f 6 v) := by
  have h6 := wk_6 h
  obtain ⟨ha, hb, hc, hd, he, hf⟩ := h
  refine ⟨?_, fun j h3 h4 => ?_, fun w hw => ?_, fun q hq => ?_, fun q i hq hi hl => ?_, fun n hn => ?_⟩
  · unfold wk_a at ha ⊢
    rw [pk_us, uo (j := 0) (by decide), uo (j := 1) (by decide), uo (j := 2) (by decide), uo (j := 5) (by decide), uo (j := 7) (by decide), uo (j := 8) (by decide), uo (j := 10) (by decide)]
    exact ⟨ha.1, ha.2.1, ha.2.2.1, ha.2.2.2.1, ⟨by omega, by omega⟩, ha.2.2.2.2.2⟩
  · rw [uo (by omega)]; exact hb j h3 h4
  · rw [uo (by omega), pk_us]
    obtain ⟨q1, q2, q3⟩ := hc w hw
    refine ⟨q1, q2, fun q => ?_⟩
    by_cases e : (w : Int) < (f 6).toInt
    · exact q3 e
    · obtain rfl : w = (f 6).toInt.toNat := by omega
      exact h3
  · rw [uo (by omega)]; exact hd q hq
  · rw [uo (by omega)] at hl
    rw [uo (by omega), pk_us]
    have := he q i hq hi hl
    omega
  · rw [uo (by omega), uo (by omega), uo (by omega)]; exact hf n hn
/-- a word's states -/
theorem wk_uf {f : Nat → Int32} (h : wok f) {k : Nat} {v : Int32} (h1 : 56 ≤ k ∧ k ≤ 70 ∧ k % 2 = 0) (h2 : 1 ≤ v.toInt ∧ v.toInt ≤ 255) : wok (upd f k v) := by
  obtain ⟨ha, hb, hc, hd, he, hf⟩ := h
  have s6 : upd f k v 6 = f 6 := uo (by omega)
  refine ⟨?_, fun j h3 h4 => ?_, fun w hw => ?_, fun q hq => ?_, fun q i hq hi => ?_, fun n hn => ?_⟩
  · unfold wk_a
    rw [uo (j := 0) (by omega), uo (j := 1) (by omega), uo (j := 2) (by omega), uo (j := 5) (by omega), s6, uo (j := 7) (by omega), uo (j := 8) (by omega), uo (j := 10) (by omega)]
    exact ha
  · rw [uo (by omega)]; exact hb j h3 h4
  · by_cases q : 56 + 2 * w = k
    · subst q; rw [pk_us]; exact ⟨by omega, h2.2, fun _ => h2.1⟩
    · rw [uo q, s6]; exact hc w hw
  · rw [uo (by omega)]; exact hd q hq
  · rw [uo (by omega), uo (by omega), s6]; exact he q i hq hi
  · rw [uo (by omega), uo (by omega), uo (by omega)]; exact hf n hn
/-- a plan's word -/
theorem wk_up {f : Nat → Int32} (h : wok f) {q i : Nat} {v : Int32} (hq : q < 4) (hi : i < 5) (h2 : 0 ≤ v.toInt ∧ v.toInt < (f 6).toInt) : wok (upd f (72 + 6 * q + i) v) := by
  obtain ⟨ha, hb, hc, hd, he, hf⟩ := h
  have s6 : upd f (72 + 6 * q + i) v 6 = f 6 := uo (by omega)
  refine ⟨?_, fun j h3 h4 => ?_, fun w hw => ?_, fun q' hq' => ?_, fun q' i' hq' hi' hl => ?_, fun n hn => ?_⟩
  · unfold wk_a
    rw [uo (j := 0) (by omega), uo (j := 1) (by omega), uo (j := 2) (by omega), uo (j := 5) (by omega), s6, uo (j := 7) (by omega), uo (j := 8) (by omega), uo (j := 10) (by omega)]
    exact ha
  · rw [uo (by omega)]; exact hb j h3 h4
  · rw [uo (by omega), s6]; exact hc w hw
  · rw [uo (by omega)]; exact hd q' hq'
  · rw [uo (by omega)] at hl
    rw [s6]
    by_cases e : 72 + 6 * q' + i' = 72 + 6 * q + i
    · rw [e, pk_us]; exact h2
    · rw [uo e]; exact he q' i' hq' hi' hl
  · rw [uo (by omega), uo (by omega), uo (by omega)]; exact hf n hn
/-- a plan's length: its words told ahead -/
theorem wk_ul {f : Nat → Int32} (h : wok f) {q : Nat} {v : Int32} (hq : q < 4) (h2 : 0 ≤ v.toInt ∧ v.toInt ≤ 5) (h3 : ∀ i : Nat, i < 5 → (i : Int) < v.toInt → 0 ≤ (f (72 + 6 * q + i)).toInt ∧ (f (72 + 6 * q + i)).toInt < (f 6).toInt) : wok (upd f (71 + 6 * q) v) := by
  obtain ⟨ha, hb, hc, hd, he, hf⟩ := h
  have s6 : upd f (71 + 6 * q) v 6 = f 6 := uo (by omega)
  refine ⟨?_, fun j h3 h4 => ?_, fun w hw => ?_, fun q' hq' => ?_, fun q' i' hq' hi' hl => ?_, fun n hn => ?_⟩
  · unfold wk_a
    rw [uo (j := 0) (by omega), uo (j := 1) (by omega), uo (j := 2) (by omega), uo (j := 5) (by omega), s6, uo (j := 7) (by omega), uo (j := 8) (by omega), uo (j := 10) (by omega)]
    exact ha
  · rw [uo (by omega)]; exact hb j h3 h4
  · rw [uo (by omega), s6]; exact hc w hw
  · by_cases e : q' = q
    · subst e; rw [pk_us]; exact h2
    · rw [uo (by omega)]; exact hd q' hq'
  · rw [uo (j := 72 + 6 * q' + i') (by omega), s6]
    by_cases e : q' = q
    · subst e; rw [pk_us] at hl; exact h3 i' hi' hl
    · rw [uo (by omega)] at hl; exact he q' i' hq' hi' hl
  · rw [uo (by omega), uo (by omega), uo (by omega)]; exact hf n hn
/-- changes: rows behind the last one, the count -/
theorem wk_ux {f : Nat → Int32} (h : wok f) {k : Nat} {v : Int32} (h1 : 105 + 2 * (f 10).toInt ≤ k) : wok (upd f k v) := by
  have h10 := wk_10 h
  obtain ⟨ha, hb, hc, hd, he, hf⟩ := h
  have s6 : upd f k v 6 = f 6 := uo (by omega)
  refine ⟨?_, fun j h3 h4 => ?_, fun w hw => ?_, fun q hq => ?_, fun q i hq hi => ?_, fun n hn => ?_⟩
  · unfold wk_a
    rw [uo (j := 0) (by omega), uo (j := 1) (by omega), uo (j := 2) (by omega), uo (j := 5) (by omega), s6, uo (j := 7) (by omega), uo (j := 8) (by omega), uo (j := 10) (by omega)]
    exact ha
  · rw [uo (by omega)]; exact hb j h3 h4
  · rw [uo (by omega), s6]; exact hc w hw
  · rw [uo (by omega)]; exact hd q hq
  · rw [uo (by omega), uo (by omega), s6]; exact he q i hq hi
  · rw [uo (j := 10) (by omega)]
    intro hl
    rw [uo (by omega), uo (by omega)]; exact hf n hn hl
theorem wk_un {f : Nat → Int32} (h : wok f) {v : Int32} (h1 : 0 ≤ v.toInt ∧ v.toInt ≤ 60) (h2 : ∀ k : Nat, k < 60 → (k : Int) < v.toInt → wch (f (105 + 2 * k)) (f (106 + 2 * k))) : wok (upd f 10 v) := by
  obtain ⟨ha, hb, hc, hd, he, hf⟩ := h
  have s6 : upd f 10 v 6 = f 6 := uo (by omega)
  refine ⟨?_, fun j h3 h4 => ?_, fun w hw => ?_, fun q hq => ?_, fun q i hq hi => ?_, fun n hn => ?_⟩
  · unfold wk_a at ha ⊢
    rw [uo (j := 0) (by omega), uo (j := 1) (by omega), uo (j := 2) (by omega), uo (j := 5) (by omega), s6, uo (j := 7) (by omega), uo (j := 8) (by omega), pk_us]
    exact ⟨ha.1, ha.2.1, ha.2.2.1, ha.2.2.2.1, ha.2.2.2.2.1, ha.2.2.2.2.2.1, ha.2.2.2.2.2.2.1, h1⟩
  · rw [uo (by omega)]; exact hb j h3 h4
  · rw [uo (by omega), s6]; exact hc w hw
  · rw [uo (by omega)]; exact hd q hq
  · rw [uo (by omega), uo (by omega), s6]; exact he q i hq hi
  · rw [pk_us, uo (by omega), uo (by omega)]; exact h2 n hn
theorem wk_ch {f : Nat → Int32} (h : wok f) {k : Nat} (hk : (k : Int) < (f 10).toInt) : wch (f (105 + 2 * k)) (f (106 + 2 * k)) := by
  have := wk_10 h
  exact h.2.2.2.2.2 k (by omega) hk
theorem wok_eq {f g : Nat → Int32} (h : wok g) (e : ∀ j, j < 225 → f j = g j) : wok f := by
  obtain ⟨ha, hb, hc, hd, he, hf⟩ := h
  have s6 : f 6 = g 6 := e 6 (by omega)
  refine ⟨?_, fun j h3 h4 => ?_, fun w hw => ?_, fun q hq => ?_, fun q i hq hi => ?_, fun n hn => ?_⟩
  · unfold wk_a at ha ⊢
    rw [e 0 (by omega), e 1 (by omega), e 2 (by omega), e 5 (by omega), s6, e 7 (by omega), e 8 (by omega), e 10 (by omega)]
    exact ha
  · rw [e j (by omega)]; exact hb j h3 h4
  · rw [e _ (by omega), s6]; exact hc w hw
  · rw [e _ (by omega)]; exact hd q hq
  · rw [e _ (by omega), e _ (by omega), s6]; exact he q i hq hi
  · rw [e 10 (by omega), e _ (by omega), e _ (by omega)]; exact hf n hn
theorem wok_z {f : Nat → Int32} (e : ∀ j, j < 225 → f j = 0) : wok f := by
  refine wok_eq (g := fun _ => 0) ?_ e
  have z : (0 : Int32).toInt = 0 := by decide
  refine ⟨?_, fun j _ _ => ?_, fun w _ => ?_, fun q _ => ?_, fun q i _ _ h => ?_, fun n _ h => ?_⟩
  · unfold wk_a; simp only [z]; omega
  · simp only [z]; omega
  · simp only [z]; omega
  · simp only [z]; omega
  · simp only [z] at h; omega
  · simp only [z] at h; omega
/-- rows filled or copied up to a place -/
def zf (f : Nat → Int32) (n : Nat) : Prop := ∀ j : Nat, j < n → f j = 0
def cf (f g : Nat → Int32) (a b n : Nat) : Prop := ∀ j : Nat, j < n → f (a + j) = g (b + j)
theorem zf_s {f : Nat → Int32} {n m : Nat} (h : zf f n) (hm : m = n + 1) {k : Nat} (hk : k = n) : zf (upd f k 0) m := fun j hj => by
  subst hk
  by_cases q : j = k
  · subst q; exact pk_us
  · rw [uo q]; exact h j (by omega)
theorem cf_s {f g : Nat → Int32} {a b n m : Nat} (h : cf f g a b n) (hm : m = n + 1) {k : Nat} (hk : k = a + n) {v : Int32} (hv : v = g (b + n)) : cf (upd f k v) g a b m := fun j hj => by
  subst hk
  by_cases q : j = n
  · subst q; rw [pk_us, hv]
  · rw [uo (by omega)]; exact h j (by omega)
/-- where there is a desk, a hearer, a plan, there are states -/
def wst (f : Nat → Int32) : Prop := (1 ≤ (f 0).toInt ∧ 1 ≤ (f 2).toInt) ∨ ((f 9).toInt ≤ 0 ∧ (f 5).toInt ≤ 0 ∧ (f 7).toInt ≤ 0)
def wod (f : Nat → Int32) : Prop := wok f ∧ wst f
theorem wst_u {f : Nat → Int32} (h : wst f) {k : Nat} {v : Int32} (h1 : k ≠ 0 ∧ k ≠ 2 ∧ k ≠ 9 ∧ k ≠ 5 ∧ k ≠ 7) : wst (upd f k v) := by
  unfold wst
  rw [uo (j := 0) (by omega), uo (j := 2) (by omega), uo (j := 9) (by omega), uo (j := 5) (by omega), uo (j := 7) (by omega)]
  exact h
theorem wod_eq {f g : Nat → Int32} (h : wod g) (e : ∀ j, j < 225 → f j = g j) : wod f := by
  refine ⟨wok_eq h.1 e, ?_⟩
  have h2 := h.2
  unfold wst at h2 ⊢
  rw [e 0 (by omega), e 2 (by omega), e 9 (by omega), e 5 (by omega), e 7 (by omega)]
  exact h2
/-- three images -/
def imok (f : Nat → Int32) : Prop := ∀ k : Nat, k < 3 → wod (fun j => f (225 * k + j))

/-- a number of a slot, and as a word -/
def nmF (f : Nat → Int64) (s i : Int32) : Int64 := f (60 * s.toInt.toNat + i.toInt.toNat)
def tdF (f : Nat → Int64) (s i : Int32) : Int32 := (nmF f s i).toInt32
/-- a slot's row is a week of words that are there -/
def wkok (f : Nat → Int32) (nm : Nat → Int64) (mn : Nat → Int32) (s : Int32) : Prop := ((1 ≤ (f 0).toInt ∧ 1 ≤ (f 2).toInt) ∧ 0 ≤ s.toInt ∧ s.toInt ≤ 3) ∧ (0 ≤ (mn s.toNatClampNeg).toInt ∧ (mn s.toNatClampNeg).toInt ≤ 10) ∧ ∀ i : Int32, 0 ≤ i.toInt → i.toInt < (mn s.toNatClampNeg).toInt → ((nmF nm s i).toInt = 8 ∨ (0 ≤ (nmF nm s i).toInt ∧ (nmF nm s i).toInt < (f 6).toInt))
theorem td_b {f : Nat → Int32} {nm : Nat → Int64} {mn : Nat → Int32} {s i : Int32} (h : wkok f nm mn s) (h6 : (f 6).toInt ≤ 8) (h1 : 0 ≤ i.toInt) (h2 : i.toInt < (mn s.toNatClampNeg).toInt) : (0 ≤ (tdF nm s i).toInt ∧ (tdF nm s i).toInt ≤ 8) ∧ ((tdF nm s i).toInt = 8 ∨ (0 ≤ (tdF nm s i).toInt ∧ (tdF nm s i).toInt < (f 6).toInt)) := by
  have q := h.2.2 i h1 h2
  unfold tdF
  rw [l2i_b (by omega) (by omega)]
  omega
def bitF (x k : Int32) : Int32 := (x >>> (k &&& 31)) &&& 1
theorem bits_k : ∀ j : Fin 256, (j.val = 0 → ((((((((((0 : Int32) + (nI j.val >>> ((0 : Int32) &&& 31) &&& 1)) + (nI j.val >>> ((1 : Int32) &&& 31) &&& 1)) + (nI j.val >>> ((2 : Int32) &&& 31) &&& 1)) + (nI j.val >>> ((3 : Int32) &&& 31) &&& 1)) + (nI j.val >>> ((4 : Int32) &&& 31) &&& 1)) + (nI j.val >>> ((5 : Int32) &&& 31) &&& 1)) + (nI j.val >>> ((6 : Int32) &&& 31) &&& 1)) + (nI j.val >>> ((7 : Int32) &&& 31) &&& 1))).toInt = 0) ∧ (j.val ≠ 0 → 1 ≤ ((((((((((0 : Int32) + (nI j.val >>> ((0 : Int32) &&& 31) &&& 1)) + (nI j.val >>> ((1 : Int32) &&& 31) &&& 1)) + (nI j.val >>> ((2 : Int32) &&& 31) &&& 1)) + (nI j.val >>> ((3 : Int32) &&& 31) &&& 1)) + (nI j.val >>> ((4 : Int32) &&& 31) &&& 1)) + (nI j.val >>> ((5 : Int32) &&& 31) &&& 1)) + (nI j.val >>> ((6 : Int32) &&& 31) &&& 1)) + (nI j.val >>> ((7 : Int32) &&& 31) &&& 1))).toInt) := by decide +kernel
theorem bits_b (x : Int32) : (x.toInt = 0 → ((((((((((0 : Int32) + (x >>> ((0 : Int32) &&& 31) &&& 1)) + (x >>> ((1 : Int32) &&& 31) &&& 1)) + (x >>> ((2 : Int32) &&& 31) &&& 1)) + (x >>> ((3 : Int32) &&& 31) &&& 1)) + (x >>> ((4 : Int32) &&& 31) &&& 1)) + (x >>> ((5 : Int32) &&& 31) &&& 1)) + (x >>> ((6 : Int32) &&& 31) &&& 1)) + (x >>> ((7 : Int32) &&& 31) &&& 1))).toInt = 0) ∧ (1 ≤ x.toInt ∧ x.toInt ≤ 255 → 1 ≤ ((((((((((0 : Int32) + (x >>> ((0 : Int32) &&& 31) &&& 1)) + (x >>> ((1 : Int32) &&& 31) &&& 1)) + (x >>> ((2 : Int32) &&& 31) &&& 1)) + (x >>> ((3 : Int32) &&& 31) &&& 1)) + (x >>> ((4 : Int32) &&& 31) &&& 1)) + (x >>> ((5 : Int32) &&& 31) &&& 1)) + (x >>> ((6 : Int32) &&& 31) &&& 1)) + (x >>> ((7 : Int32) &&& 31) &&& 1))).toInt) := by
  refine ⟨fun h => ?_, fun h => ?_⟩
  · obtain rfl : x = nI 0 := Int32.toInt_inj.mp (h.trans (by decide))
    exact (bits_k 0).1 rfl
  · obtain ⟨j, hj, rfl⟩ : ∃ j : Nat, j < 256 ∧ x = nI j := ⟨x.toInt.toNat, by omega, Int32.toInt_inj.mp (by rw [nI_toInt (by omega)]; omega)⟩
    rw [nI_toInt (by omega)] at h
    exact (bits_k ⟨j, hj⟩).2 (by show j ≠ 0; omega)
def asF (f : Nat → Int32) : Int32 := (1 : Int32) <<< (f 0 &&& 31) - 1
theorem as_b {f : Nat → Int32} (h : wok f) (h1 : 1 ≤ (f 0).toInt) : 1 ≤ (asF f).toInt := by
  have h0 := wk_0 h
  obtain ⟨j, hj, e⟩ : ∃ j : Nat, j ≤ 8 ∧ f 0 = nI j := ⟨(f 0).toInt.toNat, by omega, Int32.toInt_inj.mp (by rw [nI_toInt (by omega)]; omega)⟩
  have key : ∀ j : Fin 9, 1 ≤ j.val → 1 ≤ (((1 : Int32) <<< (nI j.val &&& 31)) - 1).toInt := by decide
  unfold asF
  rw [e] at h1 ⊢
  rw [nI_toInt (by omega)] at h1
  exact key ⟨j, by omega⟩ (by show 1 ≤ j; omega)
