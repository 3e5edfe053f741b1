theorem b_678 : Cond.fieldLink RX9 19 "GentleLetters$Tape" "stop" "I" ∈ BIG := bi (tin_1 _ (List.mem_of_getElem? (i := 49) rfl)) rfl
theorem b_679 : Cond.fieldLink RX9 25 "GentleLetters$Tape" "start" "I" ∈ BIG := bi (tin_1 _ (List.mem_of_getElem? (i := 48) rfl)) rfl
theorem b_680 : Cond.fieldLink RX9 32 "GentleLetters$Tape" "kind" "I" ∈ BIG := bi (tin_1 _ (List.mem_of_getElem? (i := 46) rfl)) rfl
theorem b_681 : Cond.fieldLink RX9 35 "GentleLetters$Tape" "number" "I" ∈ BIG := bi (tin_1 _ (List.mem_of_getElem? (i := 50) rfl)) rfl
theorem b_682 : Cond.methodLink RX9 28 yX9_kindOf ∈ BIG := bi (tin_2 _ (List.mem_of_getElem? (i := 226) rfl)) rfl
theorem b_683 : Cond.constant RX9 38 (1000000) ∈ BIG := bi (tin_2 _ (List.mem_of_getElem? (i := 229) rfl)) rfl
theorem b_684 : Cond.methodLink RX9 39 yJ9_min_7cf53 ∈ BIG := bi (tin_2 _ (List.mem_of_getElem? (i := 230) rfl)) rfl
theorem b_685 : Cond.methodLink RX9 22 yX9_advance ∈ BIG := bi (tin_2 _ (List.mem_of_getElem? (i := 222) rfl)) rfl
theorem b_686 : Cond.methodLink RX9 45 yJ0_length_8abf5 ∈ BIG := bi (tin_3 _ (List.mem_of_getElem? (i := 10) rfl)) rfl
theorem b_687 : Cond.methodLink RX9 51 yJ0_charAt_5068e ∈ BIG := bi (tin_3 _ (List.mem_of_getElem? (i := 20) rfl)) rfl
theorem b_688 : Cond.fieldLink RX1 29 "GentleLetters$DeskReader" "fault" "I" ∈ BIG := bi (tin_1 _ (List.mem_of_getElem? (i := 210) rfl)) rfl
theorem b_689 : Cond.fieldLink RX1 12 "GentleLetters$DeskReader" "tape" "LGentleLetters$Tape;" ∈ BIG := bi (tin_1 _ (List.mem_of_getElem? (i := 206) rfl)) rfl
theorem b_690 : Cond.fieldLinkNest RX1 51 "GentleLetters$Tape" "start" "I" RX11 ∈ nests := ne (tin_1 _ (List.mem_of_getElem? (i := 47) rfl)) rfl
theorem b_691 : Cond.fieldLink RX1 25 "GentleLetters$DeskReader" "place" "I" ∈ BIG := bi (tin_1 _ (List.mem_of_getElem? (i := 212) rfl)) rfl
theorem b_692 : Cond.methodLinkNest RX1 54 yX9_standsOn RX11 ∈ nests := ne (tin_3 _ (List.mem_of_getElem? (i := 6) rfl)) rfl
theorem b_693 : Cond.methodLinkNest RX1 62 yX9_advance RX11 ∈ nests := ne (tin_3 _ (List.mem_of_getElem? (i := 62) rfl)) rfl
theorem b_694 : Cond.methodLink RX1 58 yX1_blame ∈ BIG := bi (tin_3 _ (List.mem_of_getElem? (i := 58) rfl)) rfl
theorem b_695 : Cond.fieldLinkNest RX1 38 "GentleLetters$Tape" "kind" "I" RX11 ∈ nests := ne (tin_1 _ (List.mem_of_getElem? (i := 45) rfl)) rfl
theorem b_696 : Cond.fieldLinkNest RX1 65 "GentleLetters$Tape" "number" "I" RX11 ∈ nests := ne (tin_1 _ (List.mem_of_getElem? (i := 51) rfl)) rfl
theorem b_697 : Cond.fieldLink RX1 68 "GentleLetters$DeskReader" "value" "I" ∈ BIG := bi (tin_1 _ (List.mem_of_getElem? (i := 214) rfl)) rfl
theorem b_698 : Cond.methodLink RX1 71 yX1_findNumber ∈ BIG := bi (tin_3 _ (List.mem_of_getElem? (i := 72) rfl)) rfl
theorem b_699 : Cond.methodLink RX1 75 yX1_takeWord ∈ BIG := bi (tin_3 _ (List.mem_of_getElem? (i := 2) rfl)) rfl
theorem b_700 : Cond.methodLink RX1 78 yX1_takeNumber ∈ BIG := bi (tin_3 _ (List.mem_of_getElem? (i := 68) rfl)) rfl
theorem b_701 : Cond.methodLink RX1 129 yX1_takeNamed ∈ BIG := bi (tin_3 _ (List.mem_of_getElem? (i := 64) rfl)) rfl
theorem b_702 : Cond.fieldLink RX1 21 "GentleLetters$DeskReader" "draft" "LGentleLetters$Desk;" ∈ BIG := bi (tin_1 _ (List.mem_of_getElem? (i := 208) rfl)) rfl
theorem b_703 : Cond.fieldLinkNest RX1 133 "GentleLetters$Desk" "states" "I" RX11 ∈ nests := ne (tin_1 _ (List.mem_of_getElem? (i := 98) rfl)) rfl
theorem b_704 : Cond.fieldLinkNest RX1 137 "GentleLetters$Desk" "really" "I" RX11 ∈ nests := ne (tin_1 _ (List.mem_of_getElem? (i := 101) rfl)) rfl
theorem b_705 : Cond.fieldLinkNest RX1 141 "GentleLetters$Desk" "days" "I" RX11 ∈ nests := ne (tin_1 _ (List.mem_of_getElem? (i := 108) rfl)) rfl
theorem b_706 : Cond.fieldLinkNest RX1 145 "GentleLetters$Desk" "heal" "I" RX11 ∈ nests := ne (tin_1 _ (List.mem_of_getElem? (i := 111) rfl)) rfl
theorem b_707 : Cond.fieldLinkNest RX1 149 "GentleLetters$Desk" "leak" "I" RX11 ∈ nests := ne (tin_1 _ (List.mem_of_getElem? (i := 114) rfl)) rfl
theorem b_708 : Cond.fieldLinkNest RX1 151 "GentleLetters$Desk" "grades" "[I" RX11 ∈ nests := ne (tin_1 _ (List.mem_of_getElem? (i := 139) rfl)) rfl
theorem b_709 : Cond.fieldLinkNest RX1 91 "GentleLetters$Desk" "hearers" "I" RX11 ∈ nests := ne (tin_1 _ (List.mem_of_getElem? (i := 120) rfl)) rfl
theorem b_710 : Cond.fieldLinkNest RX1 161 "GentleLetters$Desk" "reckonings" "[I" RX11 ∈ nests := ne (tin_1 _ (List.mem_of_getElem? (i := 144) rfl)) rfl
theorem b_711 : Cond.fieldLinkNest RX1 156 "GentleLetters$Desk" "thoughts" "[I" RX11 ∈ nests := ne (tin_1 _ (List.mem_of_getElem? (i := 141) rfl)) rfl
theorem b_712 : Cond.fieldLinkNest RX1 168 "GentleLetters$Desk" "shames" "[I" RX11 ∈ nests := ne (tin_1 _ (List.mem_of_getElem? (i := 150) rfl)) rfl
theorem b_713 : Cond.fieldLinkNest RX1 99 "GentleLetters$Desk" "words" "I" RX11 ∈ nests := ne (tin_1 _ (List.mem_of_getElem? (i := 127) rfl)) rfl
theorem b_714 : Cond.fieldLinkNest RX1 171 "GentleLetters$Desk" "meanings" "[I" RX11 ∈ nests := ne (tin_1 _ (List.mem_of_getElem? (i := 153) rfl)) rfl
theorem b_715 : Cond.fieldLinkNest RX1 174 "GentleLetters$Desk" "planWords" "[I" RX11 ∈ nests := ne (tin_1 _ (List.mem_of_getElem? (i := 158) rfl)) rfl
theorem b_716 : Cond.fieldLinkNest RX1 107 "GentleLetters$Desk" "plans" "I" RX11 ∈ nests := ne (tin_1 _ (List.mem_of_getElem? (i := 130) rfl)) rfl
theorem b_717 : Cond.fieldLinkNest RX1 177 "GentleLetters$Desk" "planSizes" "[I" RX11 ∈ nests := ne (tin_1 _ (List.mem_of_getElem? (i := 156) rfl)) rfl
theorem b_718 : Cond.fieldLinkNest RX1 184 "GentleLetters$Desk" "tidings" "[I" RX11 ∈ nests := ne (tin_1 _ (List.mem_of_getElem? (i := 162) rfl)) rfl
theorem b_719 : Cond.fieldLinkNest RX1 115 "GentleLetters$Desk" "news" "I" RX11 ∈ nests := ne (tin_1 _ (List.mem_of_getElem? (i := 135) rfl)) rfl
theorem b_720 : Cond.fieldLinkNest RX1 187 "GentleLetters$Desk" "told" "[I" RX11 ∈ nests := ne (tin_1 _ (List.mem_of_getElem? (i := 147) rfl)) rfl
theorem b_721 : Cond.fieldLinkNest RX1 48 "GentleLetters$Desk" "lines" "I" RX11 ∈ nests := ne (tin_1 _ (List.mem_of_getElem? (i := 117) rfl)) rfl
theorem b_722 : Cond.methodLink RX1 122 yX1_readTells ∈ BIG := bi (tin_3 _ (List.mem_of_getElem? (i := 112) rfl)) rfl
theorem b_723 : Cond.methodLink RX1 117 yX1_readNews ∈ BIG := bi (tin_3 _ (List.mem_of_getElem? (i := 105) rfl)) rfl
theorem b_724 : Cond.methodLink RX1 110 yX1_readPlan ∈ BIG := bi (tin_3 _ (List.mem_of_getElem? (i := 100) rfl)) rfl
theorem b_725 : Cond.methodLink RX1 102 yX1_readWord ∈ BIG := bi (tin_3 _ (List.mem_of_getElem? (i := 93) rfl)) rfl
theorem b_726 : Cond.methodLink RX1 94 yX1_readHearer ∈ BIG := bi (tin_3 _ (List.mem_of_getElem? (i := 86) rfl)) rfl
theorem b_727 : Cond.methodLink RX1 86 yX1_readGrades ∈ BIG := bi (tin_3 _ (List.mem_of_getElem? (i := 81) rfl)) rfl
theorem b_728 : Cond.methodLink RX1 81 yX1_readHead ∈ BIG := bi (tin_2 _ (List.mem_of_getElem? (i := 237) rfl)) rfl
theorem b_729 : Cond.methodLinkNest RX1 32 yX0_clear RX11 ∈ nests := ne (tin_2 _ (List.mem_of_getElem? (i := 211) rfl)) rfl
theorem b_730 : Cond.methodLinkNest RX1 35 yX9_rewind RX11 ∈ nests := ne (tin_2 _ (List.mem_of_getElem? (i := 218) rfl)) rfl
theorem b_731 : Cond.methodLink RX1 41 yX1_readLine ∈ BIG := bi (tin_2 _ (List.mem_of_getElem? (i := 233) rfl)) rfl
theorem b_732 : Cond.methodLink RX1 45 yX1_takeSemicolon ∈ BIG := bi (tin_3 _ (List.mem_of_getElem? (i := 116) rfl)) rfl
theorem b_733 : Cond.methodLinkNest RX11 94 yX1_readDesk RX11 ∈ nests := ne (tin_2 _ (List.mem_of_getElem? (i := 207) rfl)) rfl
theorem b_734 : Cond.fieldLinkNest RX11 98 "GentleLetters$DeskReader" "draft" "LGentleLetters$Desk;" RX11 ∈ nests := ne (tin_1 _ (List.mem_of_getElem? (i := 209) rfl)) rfl
theorem b_735 : Cond.code yX0_clear cX0_clear 1 none ∈ BIG := bi (tin_2 _ (List.mem_of_getElem? (i := 214) rfl)) rfl
theorem b_736 : Cond.instanceMethod yX0_clear ∈ BIG := bi (tin_2 _ (List.mem_of_getElem? (i := 213) rfl)) rfl
theorem b_737 : Cond.selects RX0 yX0_clear yX0_clear ∈ BIG := bi (sin_1 _ (List.mem_map.mpr ⟨(yX0_clear, 20), List.mem_of_getElem? (i := 2) rfl, rfl⟩)) rfl
theorem b_738 : Cond.code yX1_blame cX1_blame 2 (some .boolean) ∈ BIG := bi (tin_3 _ (List.mem_of_getElem? (i := 61) rfl)) rfl
theorem b_739 : Cond.instanceMethod yX1_blame ∈ BIG := bi (tin_3 _ (List.mem_of_getElem? (i := 60) rfl)) rfl
theorem b_740 : Cond.selects RX1 yX1_blame yX1_blame ∈ BIG := bi (sin_1 _ (List.mem_map.mpr ⟨(yX1_blame, 5), List.mem_of_getElem? (i := 9) rfl, rfl⟩)) rfl
theorem b_741 : Cond.initialized RX1 ∈ BIG := bi (tin_1 _ (List.mem_of_getElem? (i := 2) rfl)) rfl
theorem b_742 : Cond.code yX1_findNumber cX1_findNumber 3 (some .boolean) ∈ BIG := bi (tin_3 _ (List.mem_of_getElem? (i := 75) rfl)) rfl
theorem b_743 : Cond.instanceMethod yX1_findNumber ∈ BIG := bi (tin_3 _ (List.mem_of_getElem? (i := 74) rfl)) rfl
theorem b_744 : Cond.selects RX1 yX1_findNumber yX1_findNumber ∈ BIG := bi (sin_1 _ (List.mem_map.mpr ⟨(yX1_findNumber, 5), List.mem_of_getElem? (i := 12) rfl, rfl⟩)) rfl
theorem b_745 : Cond.code yX1_readDesk cX1_readDesk 2 (some .boolean) ∈ BIG := bi (tin_2 _ (List.mem_of_getElem? (i := 210) rfl)) rfl
theorem b_746 : Cond.instanceMethod yX1_readDesk ∈ BIG := bi (tin_2 _ (List.mem_of_getElem? (i := 209) rfl)) rfl
theorem b_747 : Cond.selects RX1 yX1_readDesk yX1_readDesk ∈ BIG := bi (sin_1 _ (List.mem_map.mpr ⟨(yX1_readDesk, 5), List.mem_of_getElem? (i := 1) rfl, rfl⟩)) rfl
theorem b_748 : Cond.code yX1_readGrades cX1_readGrades 2 (some .boolean) ∈ BIG := bi (tin_3 _ (List.mem_of_getElem? (i := 84) rfl)) rfl
theorem b_749 : Cond.instanceMethod yX1_readGrades ∈ BIG := bi (tin_3 _ (List.mem_of_getElem? (i := 83) rfl)) rfl
theorem b_750 : Cond.selects RX1 yX1_readGrades yX1_readGrades ∈ BIG := bi (sin_1 _ (List.mem_map.mpr ⟨(yX1_readGrades, 5), List.mem_of_getElem? (i := 13) rfl, rfl⟩)) rfl
theorem b_751 : Cond.code yX1_readHead cX1_readHead 1 (some .boolean) ∈ BIG := bi (tin_3 _ (List.mem_of_getElem? (i := 0) rfl)) rfl
theorem b_752 : Cond.instanceMethod yX1_readHead ∈ BIG := bi (tin_2 _ (List.mem_of_getElem? (i := 239) rfl)) rfl
theorem b_753 : Cond.selects RX1 yX1_readHead yX1_readHead ∈ BIG := bi (sin_1 _ (List.mem_map.mpr ⟨(yX1_readHead, 5), List.mem_of_getElem? (i := 6) rfl, rfl⟩)) rfl
theorem b_754 : Cond.code yX1_readHearer cX1_readHearer 4 (some .boolean) ∈ BIG := bi (tin_3 _ (List.mem_of_getElem? (i := 89) rfl)) rfl
theorem b_755 : Cond.instanceMethod yX1_readHearer ∈ BIG := bi (tin_3 _ (List.mem_of_getElem? (i := 88) rfl)) rfl
theorem b_756 : Cond.selects RX1 yX1_readHearer yX1_readHearer ∈ BIG := bi (sin_1 _ (List.mem_map.mpr ⟨(yX1_readHearer, 5), List.mem_of_getElem? (i := 14) rfl, rfl⟩)) rfl
theorem b_757 : Cond.code yX1_readLine cX1_readLine 1 (some .boolean) ∈ BIG := bi (tin_2 _ (List.mem_of_getElem? (i := 236) rfl)) rfl
theorem b_758 : Cond.instanceMethod yX1_readLine ∈ BIG := bi (tin_2 _ (List.mem_of_getElem? (i := 235) rfl)) rfl
theorem b_759 : Cond.selects RX1 yX1_readLine yX1_readLine ∈ BIG := bi (sin_1 _ (List.mem_map.mpr ⟨(yX1_readLine, 5), List.mem_of_getElem? (i := 5) rfl, rfl⟩)) rfl
theorem b_760 : Cond.code yX1_readNews cX1_readNews 2 (some .boolean) ∈ BIG := bi (tin_3 _ (List.mem_of_getElem? (i := 108) rfl)) rfl
theorem b_761 : Cond.instanceMethod yX1_readNews ∈ BIG := bi (tin_3 _ (List.mem_of_getElem? (i := 107) rfl)) rfl
theorem b_762 : Cond.selects RX1 yX1_readNews yX1_readNews ∈ BIG := bi (sin_2 _ (List.mem_map.mpr ⟨(yX1_readNews, 5), List.mem_of_getElem? (i := 1) rfl, rfl⟩)) rfl
theorem b_763 : Cond.code yX1_readPlan cX1_readPlan 3 (some .boolean) ∈ BIG := bi (tin_3 _ (List.mem_of_getElem? (i := 103) rfl)) rfl
theorem b_764 : Cond.instanceMethod yX1_readPlan ∈ BIG := bi (tin_3 _ (List.mem_of_getElem? (i := 102) rfl)) rfl
theorem b_765 : Cond.selects RX1 yX1_readPlan yX1_readPlan ∈ BIG := bi (sin_2 _ (List.mem_map.mpr ⟨(yX1_readPlan, 5), List.mem_of_getElem? (i := 0) rfl, rfl⟩)) rfl
theorem b_766 : Cond.code yX1_readTells cX1_readTells 2 (some .boolean) ∈ BIG := bi (tin_3 _ (List.mem_of_getElem? (i := 115) rfl)) rfl
theorem b_767 : Cond.instanceMethod yX1_readTells ∈ BIG := bi (tin_3 _ (List.mem_of_getElem? (i := 114) rfl)) rfl
theorem b_768 : Cond.selects RX1 yX1_readTells yX1_readTells ∈ BIG := bi (sin_2 _ (List.mem_map.mpr ⟨(yX1_readTells, 5), List.mem_of_getElem? (i := 2) rfl, rfl⟩)) rfl
theorem b_769 : Cond.code yX1_readWord cX1_readWord 4 (some .boolean) ∈ BIG := bi (tin_3 _ (List.mem_of_getElem? (i := 96) rfl)) rfl
theorem b_770 : Cond.instanceMethod yX1_readWord ∈ BIG := bi (tin_3 _ (List.mem_of_getElem? (i := 95) rfl)) rfl
theorem b_771 : Cond.selects RX1 yX1_readWord yX1_readWord ∈ BIG := bi (sin_1 _ (List.mem_map.mpr ⟨(yX1_readWord, 5), List.mem_of_getElem? (i := 15) rfl, rfl⟩)) rfl
theorem b_772 : Cond.code yX1_takeNamed cX1_takeNamed 4 (some .boolean) ∈ BIG := bi (tin_3 _ (List.mem_of_getElem? (i := 67) rfl)) rfl
theorem b_773 : Cond.instanceMethod yX1_takeNamed ∈ BIG := bi (tin_3 _ (List.mem_of_getElem? (i := 66) rfl)) rfl
theorem b_774 : Cond.selects RX1 yX1_takeNamed yX1_takeNamed ∈ BIG := bi (sin_1 _ (List.mem_map.mpr ⟨(yX1_takeNamed, 5), List.mem_of_getElem? (i := 10) rfl, rfl⟩)) rfl
theorem b_775 : Cond.code yX1_takeNumber cX1_takeNumber 3 (some .boolean) ∈ BIG := bi (tin_3 _ (List.mem_of_getElem? (i := 71) rfl)) rfl
theorem b_776 : Cond.instanceMethod yX1_takeNumber ∈ BIG := bi (tin_3 _ (List.mem_of_getElem? (i := 70) rfl)) rfl
theorem b_777 : Cond.selects RX1 yX1_takeNumber yX1_takeNumber ∈ BIG := bi (sin_1 _ (List.mem_map.mpr ⟨(yX1_takeNumber, 5), List.mem_of_getElem? (i := 11) rfl, rfl⟩)) rfl
theorem b_778 : Cond.code yX1_takeSemicolon cX1_takeSemicolon 1 (some .boolean) ∈ BIG := bi (tin_3 _ (List.mem_of_getElem? (i := 119) rfl)) rfl
theorem b_779 : Cond.instanceMethod yX1_takeSemicolon ∈ BIG := bi (tin_3 _ (List.mem_of_getElem? (i := 118) rfl)) rfl
theorem b_780 : Cond.selects RX1 yX1_takeSemicolon yX1_takeSemicolon ∈ BIG := bi (sin_2 _ (List.mem_map.mpr ⟨(yX1_takeSemicolon, 5), List.mem_of_getElem? (i := 3) rfl, rfl⟩)) rfl
theorem b_781 : Cond.code yX1_takeWord cX1_takeWord 2 (some .boolean) ∈ BIG := bi (tin_3 _ (List.mem_of_getElem? (i := 5) rfl)) rfl
theorem b_782 : Cond.instanceMethod yX1_takeWord ∈ BIG := bi (tin_3 _ (List.mem_of_getElem? (i := 4) rfl)) rfl
theorem b_783 : Cond.selects RX1 yX1_takeWord yX1_takeWord ∈ BIG := bi (sin_1 _ (List.mem_map.mpr ⟨(yX1_takeWord, 5), List.mem_of_getElem? (i := 7) rfl, rfl⟩)) rfl
theorem b_784 : Cond.code yX9_advance cX9_advance 1 none ∈ BIG := bi (tin_2 _ (List.mem_of_getElem? (i := 225) rfl)) rfl
theorem b_785 : Cond.instanceMethod yX9_advance ∈ BIG := bi (tin_2 _ (List.mem_of_getElem? (i := 224) rfl)) rfl
theorem b_786 : Cond.selects RX9 yX9_advance yX9_advance ∈ BIG := bi (sin_1 _ (List.mem_map.mpr ⟨(yX9_advance, 6), List.mem_of_getElem? (i := 4) rfl, rfl⟩)) rfl
theorem b_787 : Cond.code yX9_kindOf cX9_kindOf 1 (some .int) ∈ BIG := bi (tin_2 _ (List.mem_of_getElem? (i := 228) rfl)) rfl
theorem b_788 : Cond.static yX9_kindOf ∈ BIG := bi (tin_2 _ (List.mem_of_getElem? (i := 227) rfl)) rfl
theorem b_789 : Cond.code yX9_rewind cX9_rewind 1 none ∈ BIG := bi (tin_2 _ (List.mem_of_getElem? (i := 221) rfl)) rfl
theorem b_790 : Cond.instanceMethod yX9_rewind ∈ BIG := bi (tin_2 _ (List.mem_of_getElem? (i := 220) rfl)) rfl
theorem b_791 : Cond.selects RX9 yX9_rewind yX9_rewind ∈ BIG := bi (sin_1 _ (List.mem_map.mpr ⟨(yX9_rewind, 6), List.mem_of_getElem? (i := 3) rfl, rfl⟩)) rfl
theorem b_792 : Cond.code yX9_standsOn cX9_standsOn 3 (some .boolean) ∈ BIG := bi (tin_3 _ (List.mem_of_getElem? (i := 9) rfl)) rfl
theorem b_793 : Cond.instanceMethod yX9_standsOn ∈ BIG := bi (tin_3 _ (List.mem_of_getElem? (i := 8) rfl)) rfl
theorem b_794 : Cond.selects RX9 yX9_standsOn yX9_standsOn ∈ BIG := bi (sin_1 _ (List.mem_map.mpr ⟨(yX9_standsOn, 6), List.mem_of_getElem? (i := 8) rfl, rfl⟩)) rfl
theorem b_795 : Cond.code yJ0_charAt_5068e cJ0_charAt_5068e 2 (some .char) ∈ BIG := bi (tin_3 _ (List.mem_of_getElem? (i := 23) rfl)) rfl
theorem b_796 : Cond.instanceMethod yJ0_charAt_5068e ∈ BIG := bi (tin_3 _ (List.mem_of_getElem? (i := 21) rfl)) rfl
theorem b_797 : Cond.selects RJ0 yJ0_charAt_5068e yJ0_charAt_5068e ∈ BIG := bi (tin_3 _ (List.mem_of_getElem? (i := 22) rfl)) rfl
theorem b_798 : Cond.code yJ0_length_8abf5 cJ0_length_8abf5 1 (some .int) ∈ BIG := bi (tin_3 _ (List.mem_of_getElem? (i := 13) rfl)) rfl
theorem b_799 : Cond.instanceMethod yJ0_length_8abf5 ∈ BIG := bi (tin_3 _ (List.mem_of_getElem? (i := 11) rfl)) rfl
theorem b_800 : Cond.selects RJ0 yJ0_length_8abf5 yJ0_length_8abf5 ∈ BIG := bi (tin_3 _ (List.mem_of_getElem? (i := 12) rfl)) rfl
theorem m_yX0_clear : MV yX0_clear cX0_clear 1 none 0 := ⟨b_735, b_736, b_737, b_21, by decide +kernel⟩
theorem m_yX1_blame : MV yX1_blame cX1_blame 2 (some .boolean) 1 := ⟨b_738, b_739, b_740, b_741, by decide +kernel⟩
theorem m_yX1_findNumber : MV yX1_findNumber cX1_findNumber 3 (some .boolean) 2 := ⟨b_742, b_743, b_744, b_741, by decide +kernel⟩
theorem m_yX1_readDesk : MV yX1_readDesk cX1_readDesk 2 (some .boolean) 0 := ⟨b_745, b_746, b_747, b_741, by decide +kernel⟩
theorem m_yX1_readGrades : MV yX1_readGrades cX1_readGrades 2 (some .boolean) 0 := ⟨b_748, b_749, b_750, b_741, by decide +kernel⟩
theorem m_yX1_readHead : MV yX1_readHead cX1_readHead 1 (some .boolean) 0 := ⟨b_751, b_752, b_753, b_741, by decide +kernel⟩
theorem m_yX1_readHearer : MV yX1_readHearer cX1_readHearer 4 (some .boolean) 0 := ⟨b_754, b_755, b_756, b_741, by decide +kernel⟩
theorem m_yX1_readLine : MV yX1_readLine cX1_readLine 1 (some .boolean) 0 := ⟨b_757, b_758, b_759, b_741, by decide +kernel⟩
theorem m_yX1_readNews : MV yX1_readNews cX1_readNews 2 (some .boolean) 0 := ⟨b_760, b_761, b_762, b_741, by decide +kernel⟩
theorem m_yX1_readPlan : MV yX1_readPlan cX1_readPlan 3 (some .boolean) 0 := ⟨b_763, b_764, b_765, b_741, by decide +kernel⟩
theorem m_yX1_readTells : MV yX1_readTells cX1_readTells 2 (some .boolean) 0 := ⟨b_766, b_767, b_768, b_741, by decide +kernel⟩
theorem m_yX1_readWord : MV yX1_readWord cX1_readWord 4 (some .boolean) 0 := ⟨b_769, b_770, b_771, b_741, by decide +kernel⟩
theorem m_yX1_takeNamed : MV yX1_takeNamed cX1_takeNamed 4 (some .boolean) 3 := ⟨b_772, b_773, b_774, b_741, by decide +kernel⟩
theorem m_yX1_takeNumber : MV yX1_takeNumber cX1_takeNumber 3 (some .boolean) 2 := ⟨b_775, b_776, b_777, b_741, by decide +kernel⟩
theorem m_yX1_takeSemicolon : MV yX1_takeSemicolon cX1_takeSemicolon 1 (some .boolean) 0 := ⟨b_778, b_779, b_780, b_741, by decide +kernel⟩
theorem m_yX1_takeWord : MV yX1_takeWord cX1_takeWord 2 (some .boolean) 1 := ⟨b_781, b_782, b_783, b_741, by decide +kernel⟩
theorem m_yX9_advance : MV yX9_advance cX9_advance 1 none 0 := ⟨b_784, b_785, b_786, b_567, by decide +kernel⟩
theorem m_yX9_kindOf : MS yX9_kindOf cX9_kindOf 1 (some .int) 1 := ⟨b_787, b_788, b_567, by decide +kernel⟩
theorem m_yX9_rewind : MV yX9_rewind cX9_rewind 1 none 0 := ⟨b_789, b_790, b_791, b_567, by decide +kernel⟩
theorem m_yX9_standsOn : MV yX9_standsOn cX9_standsOn 3 (some .boolean) 1 := ⟨b_792, b_793, b_794, b_567, by decide +kernel⟩
theorem m_yJ0_charAt_5068e : MV yJ0_charAt_5068e cJ0_charAt_5068e 2 (some .char) 1 := ⟨b_795, b_796, b_797, b_624, by decide +kernel⟩
theorem m_yJ0_length_8abf5 : MV yJ0_length_8abf5 cJ0_length_8abf5 1 (some .int) 0 := ⟨b_798, b_799, b_800, b_624, by decide +kernel⟩
theorem dX11_desk_0 : decode cX11_desk 0 = .ok (.aload_n 0, 1) := by decide +kernel
theorem dX11_desk_1 : decode cX11_desk 1 = .ok (.getfield 10, 3) := by decide +kernel
theorem dX11_desk_4 : decode cX11_desk 4 = .ok (.invokevirtual 94, 3) := by decide +kernel
theorem dX11_desk_7 : decode cX11_desk 7 = .ok (.ifCond .ne 6, 3) := by decide +kernel
theorem dX11_desk_10 : decode cX11_desk 10 = .ok (.bipush (-4), 2) := by decide +kernel
theorem dX11_desk_12 : decode cX11_desk 12 = .ok (.ireturn, 1) := by decide +kernel
theorem dX11_desk_13 : decode cX11_desk 13 = .ok (.aload_n 0, 1) := by decide +kernel
theorem dX11_desk_14 : decode cX11_desk 14 = .ok (.getfield 19, 3) := by decide +kernel
theorem dX11_desk_17 : decode cX11_desk 17 = .ok (.aload_n 0, 1) := by decide +kernel
theorem dX11_desk_18 : decode cX11_desk 18 = .ok (.getfield 10, 3) := by decide +kernel
theorem dX11_desk_21 : decode cX11_desk 21 = .ok (.getfield 98, 3) := by decide +kernel
theorem dX11_desk_24 : decode cX11_desk 24 = .ok (.invokevirtual 101, 3) := by decide +kernel
theorem dX11_desk_27 : decode cX11_desk 27 = .ok (.aload_n 0, 1) := by decide +kernel
theorem dX11_desk_28 : decode cX11_desk 28 = .ok (.getfield 10, 3) := by decide +kernel
theorem dX11_desk_31 : decode cX11_desk 31 = .ok (.getfield 80, 3) := by decide +kernel
theorem dX11_desk_34 : decode cX11_desk 34 = .ok (.iconst 0, 1) := by decide +kernel
theorem dX11_desk_35 : decode cX11_desk 35 = .ok (.putfield 84, 3) := by decide +kernel
theorem dX11_desk_38 : decode cX11_desk 38 = .ok (.aload_n 0, 1) := by decide +kernel
theorem dX11_desk_39 : decode cX11_desk 39 = .ok (.getfield 19, 3) := by decide +kernel
theorem dX11_desk_42 : decode cX11_desk 42 = .ok (.getfield 105, 3) := by decide +kernel
theorem dX11_desk_45 : decode cX11_desk 45 = .ok (.ireturn, 1) := by decide +kernel
theorem dX1_blame_0 : decode cX1_blame 0 = .ok (.aload_n 0, 1) := by decide +kernel
theorem dX1_blame_1 : decode cX1_blame 1 = .ok (.iload_n 1, 1) := by decide +kernel
theorem dX1_blame_2 : decode cX1_blame 2 = .ok (.putfield 29, 3) := by decide +kernel
theorem dX1_blame_5 : decode cX1_blame 5 = .ok (.aload_n 0, 1) := by decide +kernel
theorem dX1_blame_6 : decode cX1_blame 6 = .ok (.aload_n 0, 1) := by decide +kernel
theorem dX1_blame_7 : decode cX1_blame 7 = .ok (.getfield 12, 3) := by decide +kernel
theorem dX1_blame_10 : decode cX1_blame 10 = .ok (.getfield 51, 3) := by decide +kernel
theorem dX1_blame_13 : decode cX1_blame 13 = .ok (.putfield 25, 3) := by decide +kernel
theorem dX1_blame_16 : decode cX1_blame 16 = .ok (.iconst 0, 1) := by decide +kernel
theorem dX1_blame_17 : decode cX1_blame 17 = .ok (.ireturn, 1) := by decide +kernel
theorem dX1_findNumber_0 : decode cX1_findNumber 0 = .ok (.aload_n 0, 1) := by decide +kernel
theorem dX1_findNumber_1 : decode cX1_findNumber 1 = .ok (.getfield 12, 3) := by decide +kernel
theorem dX1_findNumber_4 : decode cX1_findNumber 4 = .ok (.getfield 38, 3) := by decide +kernel
theorem dX1_findNumber_7 : decode cX1_findNumber 7 = .ok (.iconst 2, 1) := by decide +kernel
theorem dX1_findNumber_8 : decode cX1_findNumber 8 = .ok (.if_icmp .eq 9, 3) := by decide +kernel
theorem dX1_findNumber_11 : decode cX1_findNumber 11 = .ok (.aload_n 0, 1) := by decide +kernel
theorem dX1_findNumber_12 : decode cX1_findNumber 12 = .ok (.iconst 1, 1) := by decide +kernel
theorem dX1_findNumber_13 : decode cX1_findNumber 13 = .ok (.invokevirtual 58, 3) := by decide +kernel
theorem dX1_findNumber_16 : decode cX1_findNumber 16 = .ok (.ireturn, 1) := by decide +kernel
theorem dX1_findNumber_17 : decode cX1_findNumber 17 = .ok (.aload_n 0, 1) := by decide +kernel
theorem dX1_findNumber_18 : decode cX1_findNumber 18 = .ok (.getfield 12, 3) := by decide +kernel
theorem dX1_findNumber_21 : decode cX1_findNumber 21 = .ok (.getfield 65, 3) := by decide +kernel
theorem dX1_findNumber_24 : decode cX1_findNumber 24 = .ok (.iload_n 1, 1) := by decide +kernel
theorem dX1_findNumber_25 : decode cX1_findNumber 25 = .ok (.if_icmp .lt 14, 3) := by decide +kernel
theorem dX1_findNumber_28 : decode cX1_findNumber 28 = .ok (.aload_n 0, 1) := by decide +kernel
theorem dX1_findNumber_29 : decode cX1_findNumber 29 = .ok (.getfield 12, 3) := by decide +kernel
theorem dX1_findNumber_32 : decode cX1_findNumber 32 = .ok (.getfield 65, 3) := by decide +kernel
theorem dX1_findNumber_35 : decode cX1_findNumber 35 = .ok (.iload_n 2, 1) := by decide +kernel
theorem dX1_findNumber_36 : decode cX1_findNumber 36 = .ok (.if_icmp .le 9, 3) := by decide +kernel
theorem dX1_findNumber_39 : decode cX1_findNumber 39 = .ok (.aload_n 0, 1) := by decide +kernel
theorem dX1_findNumber_40 : decode cX1_findNumber 40 = .ok (.iconst 2, 1) := by decide +kernel
theorem dX1_findNumber_41 : decode cX1_findNumber 41 = .ok (.invokevirtual 58, 3) := by decide +kernel
theorem dX1_findNumber_44 : decode cX1_findNumber 44 = .ok (.ireturn, 1) := by decide +kernel
theorem dX1_findNumber_45 : decode cX1_findNumber 45 = .ok (.aload_n 0, 1) := by decide +kernel
theorem dX1_findNumber_46 : decode cX1_findNumber 46 = .ok (.aload_n 0, 1) := by decide +kernel
theorem dX1_findNumber_47 : decode cX1_findNumber 47 = .ok (.getfield 12, 3) := by decide +kernel
theorem dX1_findNumber_50 : decode cX1_findNumber 50 = .ok (.getfield 65, 3) := by decide +kernel
theorem dX1_findNumber_53 : decode cX1_findNumber 53 = .ok (.putfield 68, 3) := by decide +kernel
theorem dX1_findNumber_56 : decode cX1_findNumber 56 = .ok (.iconst 1, 1) := by decide +kernel
theorem dX1_findNumber_57 : decode cX1_findNumber 57 = .ok (.ireturn, 1) := by decide +kernel
theorem dX1_readDesk_0 : decode cX1_readDesk 0 = .ok (.aload_n 0, 1) := by decide +kernel
theorem dX1_readDesk_1 : decode cX1_readDesk 1 = .ok (.iconst 0, 1) := by decide +kernel
theorem dX1_readDesk_2 : decode cX1_readDesk 2 = .ok (.putfield 29, 3) := by decide +kernel
theorem dX1_readDesk_5 : decode cX1_readDesk 5 = .ok (.aload_n 0, 1) := by decide +kernel
theorem dX1_readDesk_6 : decode cX1_readDesk 6 = .ok (.iconst (-1), 1) := by decide +kernel
theorem dX1_readDesk_7 : decode cX1_readDesk 7 = .ok (.putfield 25, 3) := by decide +kernel
theorem dX1_readDesk_10 : decode cX1_readDesk 10 = .ok (.aload_n 0, 1) := by decide +kernel
theorem dX1_readDesk_11 : decode cX1_readDesk 11 = .ok (.getfield 21, 3) := by decide +kernel
theorem dX1_readDesk_14 : decode cX1_readDesk 14 = .ok (.invokevirtual 32, 3) := by decide +kernel
theorem dX1_readDesk_17 : decode cX1_readDesk 17 = .ok (.aload_n 0, 1) := by decide +kernel
theorem dX1_readDesk_18 : decode cX1_readDesk 18 = .ok (.getfield 12, 3) := by decide +kernel
theorem dX1_readDesk_21 : decode cX1_readDesk 21 = .ok (.invokevirtual 35, 3) := by decide +kernel
theorem dX1_readDesk_24 : decode cX1_readDesk 24 = .ok (.iconst 0, 1) := by decide +kernel
theorem dX1_readDesk_25 : decode cX1_readDesk 25 = .ok (.istore_n 1, 1) := by decide +kernel
theorem dX1_readDesk_26 : decode cX1_readDesk 26 = .ok (.iload_n 1, 1) := by decide +kernel
theorem dX1_readDesk_27 : decode cX1_readDesk 27 = .ok (.sipush 900, 3) := by decide +kernel
theorem dX1_readDesk_30 : decode cX1_readDesk 30 = .ok (.if_icmp .ge 48, 3) := by decide +kernel
theorem dX1_readDesk_33 : decode cX1_readDesk 33 = .ok (.aload_n 0, 1) := by decide +kernel
theorem dX1_readDesk_34 : decode cX1_readDesk 34 = .ok (.getfield 12, 3) := by decide +kernel
theorem dX1_readDesk_37 : decode cX1_readDesk 37 = .ok (.getfield 38, 3) := by decide +kernel
theorem dX1_readDesk_40 : decode cX1_readDesk 40 = .ok (.ifCond .eq 38, 3) := by decide +kernel
theorem dX1_readDesk_43 : decode cX1_readDesk 43 = .ok (.aload_n 0, 1) := by decide +kernel
theorem dX1_readDesk_44 : decode cX1_readDesk 44 = .ok (.invokevirtual 41, 3) := by decide +kernel
theorem dX1_readDesk_47 : decode cX1_readDesk 47 = .ok (.ifCond .eq 10, 3) := by decide +kernel
theorem dX1_readDesk_50 : decode cX1_readDesk 50 = .ok (.aload_n 0, 1) := by decide +kernel
theorem dX1_readDesk_51 : decode cX1_readDesk 51 = .ok (.invokevirtual 45, 3) := by decide +kernel
theorem dX1_readDesk_54 : decode cX1_readDesk 54 = .ok (.ifCond .ne 5, 3) := by decide +kernel
theorem dX1_readDesk_57 : decode cX1_readDesk 57 = .ok (.iconst 0, 1) := by decide +kernel
theorem dX1_readDesk_58 : decode cX1_readDesk 58 = .ok (.ireturn, 1) := by decide +kernel
theorem dX1_readDesk_59 : decode cX1_readDesk 59 = .ok (.aload_n 0, 1) := by decide +kernel
theorem dX1_readDesk_60 : decode cX1_readDesk 60 = .ok (.getfield 21, 3) := by decide +kernel
theorem dX1_readDesk_63 : decode cX1_readDesk 63 = .ok (.dup, 1) := by decide +kernel
theorem dX1_readDesk_64 : decode cX1_readDesk 64 = .ok (.getfield 48, 3) := by decide +kernel
theorem dX1_readDesk_67 : decode cX1_readDesk 67 = .ok (.iconst 1, 1) := by decide +kernel
theorem dX1_readDesk_68 : decode cX1_readDesk 68 = .ok (.iadd, 1) := by decide +kernel
theorem dX1_readDesk_69 : decode cX1_readDesk 69 = .ok (.putfield 48, 3) := by decide +kernel
theorem dX1_readDesk_72 : decode cX1_readDesk 72 = .ok (.iinc 1 1, 3) := by decide +kernel
theorem dX1_readDesk_75 : decode cX1_readDesk 75 = .ok (.goto (-49), 3) := by decide +kernel
theorem dX1_readDesk_78 : decode cX1_readDesk 78 = .ok (.iconst 1, 1) := by decide +kernel
theorem dX1_readDesk_79 : decode cX1_readDesk 79 = .ok (.ireturn, 1) := by decide +kernel
theorem dX1_readGrades_0 : decode cX1_readGrades 0 = .ok (.aload_n 0, 1) := by decide +kernel
theorem dX1_readGrades_1 : decode cX1_readGrades 1 = .ok (.getfield 12, 3) := by decide +kernel
theorem dX1_readGrades_4 : decode cX1_readGrades 4 = .ok (.invokevirtual 62, 3) := by decide +kernel
theorem dX1_readGrades_7 : decode cX1_readGrades 7 = .ok (.iconst 0, 1) := by decide +kernel
theorem dX1_readGrades_8 : decode cX1_readGrades 8 = .ok (.istore_n 1, 1) := by decide +kernel
theorem dX1_readGrades_9 : decode cX1_readGrades 9 = .ok (.iload_n 1, 1) := by decide +kernel
theorem dX1_readGrades_10 : decode cX1_readGrades 10 = .ok (.aload_n 0, 1) := by decide +kernel
theorem dX1_readGrades_11 : decode cX1_readGrades 11 = .ok (.getfield 21, 3) := by decide +kernel
theorem dX1_readGrades_14 : decode cX1_readGrades 14 = .ok (.getfield 133, 3) := by decide +kernel
theorem dX1_readGrades_17 : decode cX1_readGrades 17 = .ok (.if_icmp .ge 34, 3) := by decide +kernel
theorem dX1_readGrades_20 : decode cX1_readGrades 20 = .ok (.aload_n 0, 1) := by decide +kernel
theorem dX1_readGrades_21 : decode cX1_readGrades 21 = .ok (.iconst 0, 1) := by decide +kernel
theorem dX1_readGrades_22 : decode cX1_readGrades 22 = .ok (.bipush 99, 2) := by decide +kernel
theorem dX1_readGrades_24 : decode cX1_readGrades 24 = .ok (.invokevirtual 78, 3) := by decide +kernel
theorem dX1_readGrades_27 : decode cX1_readGrades 27 = .ok (.ifCond .ne 5, 3) := by decide +kernel
theorem dX1_readGrades_30 : decode cX1_readGrades 30 = .ok (.iconst 0, 1) := by decide +kernel
theorem dX1_readGrades_31 : decode cX1_readGrades 31 = .ok (.ireturn, 1) := by decide +kernel
theorem dX1_readGrades_32 : decode cX1_readGrades 32 = .ok (.aload_n 0, 1) := by decide +kernel
theorem dX1_readGrades_33 : decode cX1_readGrades 33 = .ok (.getfield 21, 3) := by decide +kernel
theorem dX1_readGrades_36 : decode cX1_readGrades 36 = .ok (.getfield 151, 3) := by decide +kernel
theorem dX1_readGrades_39 : decode cX1_readGrades 39 = .ok (.iload_n 1, 1) := by decide +kernel
theorem dX1_readGrades_40 : decode cX1_readGrades 40 = .ok (.aload_n 0, 1) := by decide +kernel
theorem dX1_readGrades_41 : decode cX1_readGrades 41 = .ok (.getfield 68, 3) := by decide +kernel
theorem dX1_readGrades_44 : decode cX1_readGrades 44 = .ok (.iastore, 1) := by decide +kernel
theorem dX1_readGrades_45 : decode cX1_readGrades 45 = .ok (.iinc 1 1, 3) := by decide +kernel
theorem dX1_readGrades_48 : decode cX1_readGrades 48 = .ok (.goto (-39), 3) := by decide +kernel
theorem dX1_readGrades_51 : decode cX1_readGrades 51 = .ok (.iconst 1, 1) := by decide +kernel
theorem dX1_readGrades_52 : decode cX1_readGrades 52 = .ok (.ireturn, 1) := by decide +kernel
theorem dX1_readHead_0 : decode cX1_readHead 0 = .ok (.aload_n 0, 1) := by decide +kernel
theorem dX1_readHead_1 : decode cX1_readHead 1 = .ok (.ldc 125, 2) := by decide +kernel
theorem dX1_readHead_3 : decode cX1_readHead 3 = .ok (.invokevirtual 75, 3) := by decide +kernel
theorem dX1_readHead_6 : decode cX1_readHead 6 = .ok (.ifCond .eq 15, 3) := by decide +kernel
theorem dX1_readHead_9 : decode cX1_readHead 9 = .ok (.aload_n 0, 1) := by decide +kernel
theorem dX1_readHead_10 : decode cX1_readHead 10 = .ok (.ldc 127, 2) := by decide +kernel
theorem dX1_readHead_12 : decode cX1_readHead 12 = .ok (.iconst 2, 1) := by decide +kernel
theorem dX1_readHead_13 : decode cX1_readHead 13 = .ok (.bipush 8, 2) := by decide +kernel
theorem dX1_readHead_15 : decode cX1_readHead 15 = .ok (.invokevirtual 129, 3) := by decide +kernel
theorem dX1_readHead_18 : decode cX1_readHead 18 = .ok (.ifCond .ne 5, 3) := by decide +kernel
theorem dX1_readHead_21 : decode cX1_readHead 21 = .ok (.iconst 0, 1) := by decide +kernel
theorem dX1_readHead_22 : decode cX1_readHead 22 = .ok (.ireturn, 1) := by decide +kernel
theorem dX1_readHead_23 : decode cX1_readHead 23 = .ok (.aload_n 0, 1) := by decide +kernel
theorem dX1_readHead_24 : decode cX1_readHead 24 = .ok (.getfield 21, 3) := by decide +kernel
theorem dX1_readHead_27 : decode cX1_readHead 27 = .ok (.aload_n 0, 1) := by decide +kernel
theorem dX1_readHead_28 : decode cX1_readHead 28 = .ok (.getfield 68, 3) := by decide +kernel
theorem dX1_readHead_31 : decode cX1_readHead 31 = .ok (.putfield 133, 3) := by decide +kernel
theorem dX1_readHead_34 : decode cX1_readHead 34 = .ok (.aload_n 0, 1) := by decide +kernel
theorem dX1_readHead_35 : decode cX1_readHead 35 = .ok (.ldc 135, 2) := by decide +kernel
theorem dX1_readHead_37 : decode cX1_readHead 37 = .ok (.iconst 0, 1) := by decide +kernel
theorem dX1_readHead_38 : decode cX1_readHead 38 = .ok (.aload_n 0, 1) := by decide +kernel
theorem dX1_readHead_39 : decode cX1_readHead 39 = .ok (.getfield 21, 3) := by decide +kernel
theorem dX1_readHead_42 : decode cX1_readHead 42 = .ok (.getfield 133, 3) := by decide +kernel
theorem dX1_readHead_45 : decode cX1_readHead 45 = .ok (.iconst 1, 1) := by decide +kernel
theorem dX1_readHead_46 : decode cX1_readHead 46 = .ok (.isub, 1) := by decide +kernel
theorem dX1_readHead_47 : decode cX1_readHead 47 = .ok (.invokevirtual 129, 3) := by decide +kernel
theorem dX1_readHead_50 : decode cX1_readHead 50 = .ok (.ifCond .ne 5, 3) := by decide +kernel
theorem dX1_readHead_53 : decode cX1_readHead 53 = .ok (.iconst 0, 1) := by decide +kernel
theorem dX1_readHead_54 : decode cX1_readHead 54 = .ok (.ireturn, 1) := by decide +kernel
theorem dX1_readHead_55 : decode cX1_readHead 55 = .ok (.aload_n 0, 1) := by decide +kernel
theorem dX1_readHead_56 : decode cX1_readHead 56 = .ok (.getfield 21, 3) := by decide +kernel
theorem dX1_readHead_59 : decode cX1_readHead 59 = .ok (.aload_n 0, 1) := by decide +kernel
theorem dX1_readHead_60 : decode cX1_readHead 60 = .ok (.getfield 68, 3) := by decide +kernel
theorem dX1_readHead_63 : decode cX1_readHead 63 = .ok (.putfield 137, 3) := by decide +kernel
theorem dX1_readHead_66 : decode cX1_readHead 66 = .ok (.aload_n 0, 1) := by decide +kernel
theorem dX1_readHead_67 : decode cX1_readHead 67 = .ok (.ldc 139, 2) := by decide +kernel
theorem dX1_readHead_69 : decode cX1_readHead 69 = .ok (.iconst 1, 1) := by decide +kernel
theorem dX1_readHead_70 : decode cX1_readHead 70 = .ok (.bipush 10, 2) := by decide +kernel
theorem dX1_readHead_72 : decode cX1_readHead 72 = .ok (.invokevirtual 129, 3) := by decide +kernel
theorem dX1_readHead_75 : decode cX1_readHead 75 = .ok (.ifCond .ne 5, 3) := by decide +kernel
theorem dX1_readHead_78 : decode cX1_readHead 78 = .ok (.iconst 0, 1) := by decide +kernel
theorem dX1_readHead_79 : decode cX1_readHead 79 = .ok (.ireturn, 1) := by decide +kernel
theorem dX1_readHead_80 : decode cX1_readHead 80 = .ok (.aload_n 0, 1) := by decide +kernel
theorem dX1_readHead_81 : decode cX1_readHead 81 = .ok (.getfield 21, 3) := by decide +kernel
theorem dX1_readHead_84 : decode cX1_readHead 84 = .ok (.aload_n 0, 1) := by decide +kernel
theorem dX1_readHead_85 : decode cX1_readHead 85 = .ok (.getfield 68, 3) := by decide +kernel
theorem dX1_readHead_88 : decode cX1_readHead 88 = .ok (.putfield 141, 3) := by decide +kernel
theorem dX1_readHead_91 : decode cX1_readHead 91 = .ok (.aload_n 0, 1) := by decide +kernel
theorem dX1_readHead_92 : decode cX1_readHead 92 = .ok (.ldc 143, 2) := by decide +kernel
theorem dX1_readHead_94 : decode cX1_readHead 94 = .ok (.iconst 0, 1) := by decide +kernel
theorem dX1_readHead_95 : decode cX1_readHead 95 = .ok (.bipush 100, 2) := by decide +kernel
theorem dX1_readHead_97 : decode cX1_readHead 97 = .ok (.invokevirtual 129, 3) := by decide +kernel
theorem dX1_readHead_100 : decode cX1_readHead 100 = .ok (.ifCond .ne 5, 3) := by decide +kernel
theorem dX1_readHead_103 : decode cX1_readHead 103 = .ok (.iconst 0, 1) := by decide +kernel
theorem dX1_readHead_104 : decode cX1_readHead 104 = .ok (.ireturn, 1) := by decide +kernel
theorem dX1_readHead_105 : decode cX1_readHead 105 = .ok (.aload_n 0, 1) := by decide +kernel
theorem dX1_readHead_106 : decode cX1_readHead 106 = .ok (.getfield 21, 3) := by decide +kernel
theorem dX1_readHead_109 : decode cX1_readHead 109 = .ok (.aload_n 0, 1) := by decide +kernel
theorem dX1_readHead_110 : decode cX1_readHead 110 = .ok (.getfield 68, 3) := by decide +kernel
theorem dX1_readHead_113 : decode cX1_readHead 113 = .ok (.putfield 145, 3) := by decide +kernel
theorem dX1_readHead_116 : decode cX1_readHead 116 = .ok (.aload_n 0, 1) := by decide +kernel
theorem dX1_readHead_117 : decode cX1_readHead 117 = .ok (.ldc 147, 2) := by decide +kernel
theorem dX1_readHead_119 : decode cX1_readHead 119 = .ok (.iconst 0, 1) := by decide +kernel
theorem dX1_readHead_120 : decode cX1_readHead 120 = .ok (.bipush 100, 2) := by decide +kernel
theorem dX1_readHead_122 : decode cX1_readHead 122 = .ok (.invokevirtual 129, 3) := by decide +kernel
theorem dX1_readHead_125 : decode cX1_readHead 125 = .ok (.ifCond .ne 5, 3) := by decide +kernel
theorem dX1_readHead_128 : decode cX1_readHead 128 = .ok (.iconst 0, 1) := by decide +kernel
theorem dX1_readHead_129 : decode cX1_readHead 129 = .ok (.ireturn, 1) := by decide +kernel
theorem dX1_readHead_130 : decode cX1_readHead 130 = .ok (.aload_n 0, 1) := by decide +kernel
theorem dX1_readHead_131 : decode cX1_readHead 131 = .ok (.getfield 21, 3) := by decide +kernel
theorem dX1_readHead_134 : decode cX1_readHead 134 = .ok (.aload_n 0, 1) := by decide +kernel
theorem dX1_readHead_135 : decode cX1_readHead 135 = .ok (.getfield 68, 3) := by decide +kernel
theorem dX1_readHead_138 : decode cX1_readHead 138 = .ok (.putfield 149, 3) := by decide +kernel
theorem dX1_readHead_141 : decode cX1_readHead 141 = .ok (.iconst 1, 1) := by decide +kernel
theorem dX1_readHead_142 : decode cX1_readHead 142 = .ok (.ireturn, 1) := by decide +kernel
theorem dX1_readHearer_0 : decode cX1_readHearer 0 = .ok (.aload_n 0, 1) := by decide +kernel
theorem dX1_readHearer_1 : decode cX1_readHearer 1 = .ok (.getfield 12, 3) := by decide +kernel
theorem dX1_readHearer_4 : decode cX1_readHearer 4 = .ok (.invokevirtual 62, 3) := by decide +kernel
theorem dX1_readHearer_7 : decode cX1_readHearer 7 = .ok (.aload_n 0, 1) := by decide +kernel
theorem dX1_readHearer_8 : decode cX1_readHearer 8 = .ok (.ldc 154, 2) := by decide +kernel
theorem dX1_readHearer_10 : decode cX1_readHearer 10 = .ok (.invokevirtual 75, 3) := by decide +kernel
theorem dX1_readHearer_13 : decode cX1_readHearer 13 = .ok (.ifCond .ne 5, 3) := by decide +kernel
theorem dX1_readHearer_16 : decode cX1_readHearer 16 = .ok (.iconst 0, 1) := by decide +kernel
theorem dX1_readHearer_17 : decode cX1_readHearer 17 = .ok (.ireturn, 1) := by decide +kernel
theorem dX1_readHearer_18 : decode cX1_readHearer 18 = .ok (.iconst 0, 1) := by decide +kernel
theorem dX1_readHearer_19 : decode cX1_readHearer 19 = .ok (.istore_n 1, 1) := by decide +kernel
theorem dX1_readHearer_20 : decode cX1_readHearer 20 = .ok (.iconst 0, 1) := by decide +kernel
theorem dX1_readHearer_21 : decode cX1_readHearer 21 = .ok (.istore_n 2, 1) := by decide +kernel
theorem dX1_readHearer_22 : decode cX1_readHearer 22 = .ok (.iload_n 2, 1) := by decide +kernel
theorem dX1_readHearer_23 : decode cX1_readHearer 23 = .ok (.aload_n 0, 1) := by decide +kernel
theorem dX1_readHearer_24 : decode cX1_readHearer 24 = .ok (.getfield 21, 3) := by decide +kernel
theorem dX1_readHearer_27 : decode cX1_readHearer 27 = .ok (.getfield 133, 3) := by decide +kernel
theorem dX1_readHearer_30 : decode cX1_readHearer 30 = .ok (.if_icmp .ge 75, 3) := by decide +kernel
theorem dX1_readHearer_33 : decode cX1_readHearer 33 = .ok (.iload_n 1, 1) := by decide +kernel
theorem dX1_readHearer_34 : decode cX1_readHearer 34 = .ok (.ifCond .ne 20, 3) := by decide +kernel
theorem dX1_readHearer_37 : decode cX1_readHearer 37 = .ok (.iload_n 2, 1) := by decide +kernel
theorem dX1_readHearer_38 : decode cX1_readHearer 38 = .ok (.aload_n 0, 1) := by decide +kernel
theorem dX1_readHearer_39 : decode cX1_readHearer 39 = .ok (.getfield 21, 3) := by decide +kernel
theorem dX1_readHearer_42 : decode cX1_readHearer 42 = .ok (.getfield 133, 3) := by decide +kernel
theorem dX1_readHearer_45 : decode cX1_readHearer 45 = .ok (.iconst 1, 1) := by decide +kernel
theorem dX1_readHearer_46 : decode cX1_readHearer 46 = .ok (.isub, 1) := by decide +kernel
theorem dX1_readHearer_47 : decode cX1_readHearer 47 = .ok (.if_icmp .ne 7, 3) := by decide +kernel
theorem dX1_readHearer_50 : decode cX1_readHearer 50 = .ok (.iconst 1, 1) := by decide +kernel
theorem dX1_readHearer_51 : decode cX1_readHearer 51 = .ok (.goto 4, 3) := by decide +kernel
theorem dX1_readHearer_54 : decode cX1_readHearer 54 = .ok (.iconst 0, 1) := by decide +kernel
theorem dX1_readHearer_55 : decode cX1_readHearer 55 = .ok (.istore_n 3, 1) := by decide +kernel
theorem dX1_readHearer_56 : decode cX1_readHearer 56 = .ok (.aload_n 0, 1) := by decide +kernel
theorem dX1_readHearer_57 : decode cX1_readHearer 57 = .ok (.iload_n 3, 1) := by decide +kernel
theorem dX1_readHearer_58 : decode cX1_readHearer 58 = .ok (.bipush 20, 2) := by decide +kernel
theorem dX1_readHearer_60 : decode cX1_readHearer 60 = .ok (.invokevirtual 78, 3) := by decide +kernel
theorem dX1_readHearer_63 : decode cX1_readHearer 63 = .ok (.ifCond .ne 5, 3) := by decide +kernel
theorem dX1_readHearer_66 : decode cX1_readHearer 66 = .ok (.iconst 0, 1) := by decide +kernel
theorem dX1_readHearer_67 : decode cX1_readHearer 67 = .ok (.ireturn, 1) := by decide +kernel
theorem dX1_readHearer_68 : decode cX1_readHearer 68 = .ok (.iload_n 1, 1) := by decide +kernel
theorem dX1_readHearer_69 : decode cX1_readHearer 69 = .ok (.aload_n 0, 1) := by decide +kernel
theorem dX1_readHearer_70 : decode cX1_readHearer 70 = .ok (.getfield 68, 3) := by decide +kernel
theorem dX1_readHearer_73 : decode cX1_readHearer 73 = .ok (.iadd, 1) := by decide +kernel
theorem dX1_readHearer_74 : decode cX1_readHearer 74 = .ok (.istore_n 1, 1) := by decide +kernel
theorem dX1_readHearer_75 : decode cX1_readHearer 75 = .ok (.aload_n 0, 1) := by decide +kernel
theorem dX1_readHearer_76 : decode cX1_readHearer 76 = .ok (.getfield 21, 3) := by decide +kernel
theorem dX1_readHearer_79 : decode cX1_readHearer 79 = .ok (.getfield 156, 3) := by decide +kernel
theorem dX1_readHearer_82 : decode cX1_readHearer 82 = .ok (.aload_n 0, 1) := by decide +kernel
theorem dX1_readHearer_83 : decode cX1_readHearer 83 = .ok (.getfield 21, 3) := by decide +kernel
theorem dX1_readHearer_86 : decode cX1_readHearer 86 = .ok (.getfield 91, 3) := by decide +kernel
theorem dX1_readHearer_89 : decode cX1_readHearer 89 = .ok (.bipush 8, 2) := by decide +kernel
theorem dX1_readHearer_91 : decode cX1_readHearer 91 = .ok (.imul, 1) := by decide +kernel
theorem dX1_readHearer_92 : decode cX1_readHearer 92 = .ok (.iload_n 2, 1) := by decide +kernel
theorem dX1_readHearer_93 : decode cX1_readHearer 93 = .ok (.iadd, 1) := by decide +kernel
theorem dX1_readHearer_94 : decode cX1_readHearer 94 = .ok (.aload_n 0, 1) := by decide +kernel
theorem dX1_readHearer_95 : decode cX1_readHearer 95 = .ok (.getfield 68, 3) := by decide +kernel
theorem dX1_readHearer_98 : decode cX1_readHearer 98 = .ok (.iastore, 1) := by decide +kernel
theorem dX1_readHearer_99 : decode cX1_readHearer 99 = .ok (.iinc 2 1, 3) := by decide +kernel
theorem dX1_readHearer_102 : decode cX1_readHearer 102 = .ok (.goto (-80), 3) := by decide +kernel
theorem dX1_readHearer_105 : decode cX1_readHearer 105 = .ok (.aload_n 0, 1) := by decide +kernel
theorem dX1_readHearer_106 : decode cX1_readHearer 106 = .ok (.getfield 12, 3) := by decide +kernel
theorem dX1_readHearer_109 : decode cX1_readHearer 109 = .ok (.ldc 159, 2) := by decide +kernel
theorem dX1_readHearer_111 : decode cX1_readHearer 111 = .ok (.invokevirtual 54, 3) := by decide +kernel
theorem dX1_readHearer_114 : decode cX1_readHearer 114 = .ok (.ifCond .eq 35, 3) := by decide +kernel
theorem dX1_readHearer_117 : decode cX1_readHearer 117 = .ok (.aload_n 0, 1) := by decide +kernel
theorem dX1_readHearer_118 : decode cX1_readHearer 118 = .ok (.ldc 159, 2) := by decide +kernel
theorem dX1_readHearer_120 : decode cX1_readHearer 120 = .ok (.iconst 1, 1) := by decide +kernel
theorem dX1_readHearer_121 : decode cX1_readHearer 121 = .ok (.iconst 5, 1) := by decide +kernel
theorem dX1_readHearer_122 : decode cX1_readHearer 122 = .ok (.invokevirtual 129, 3) := by decide +kernel
theorem dX1_readHearer_125 : decode cX1_readHearer 125 = .ok (.ifCond .ne 5, 3) := by decide +kernel
theorem dX1_readHearer_128 : decode cX1_readHearer 128 = .ok (.iconst 0, 1) := by decide +kernel
theorem dX1_readHearer_129 : decode cX1_readHearer 129 = .ok (.ireturn, 1) := by decide +kernel
theorem dX1_readHearer_130 : decode cX1_readHearer 130 = .ok (.aload_n 0, 1) := by decide +kernel
theorem dX1_readHearer_131 : decode cX1_readHearer 131 = .ok (.getfield 21, 3) := by decide +kernel
theorem dX1_readHearer_134 : decode cX1_readHearer 134 = .ok (.getfield 161, 3) := by decide +kernel
theorem dX1_readHearer_137 : decode cX1_readHearer 137 = .ok (.aload_n 0, 1) := by decide +kernel
theorem dX1_readHearer_138 : decode cX1_readHearer 138 = .ok (.getfield 21, 3) := by decide +kernel
theorem dX1_readHearer_141 : decode cX1_readHearer 141 = .ok (.getfield 91, 3) := by decide +kernel
theorem dX1_readHearer_144 : decode cX1_readHearer 144 = .ok (.aload_n 0, 1) := by decide +kernel
theorem dX1_readHearer_145 : decode cX1_readHearer 145 = .ok (.getfield 68, 3) := by decide +kernel
theorem dX1_readHearer_148 : decode cX1_readHearer 148 = .ok (.iastore, 1) := by decide +kernel
theorem dX1_readHearer_149 : decode cX1_readHearer 149 = .ok (.aload_n 0, 1) := by decide +kernel
theorem dX1_readHearer_150 : decode cX1_readHearer 150 = .ok (.getfield 21, 3) := by decide +kernel
theorem dX1_readHearer_153 : decode cX1_readHearer 153 = .ok (.dup, 1) := by decide +kernel
theorem dX1_readHearer_154 : decode cX1_readHearer 154 = .ok (.getfield 91, 3) := by decide +kernel
theorem dX1_readHearer_157 : decode cX1_readHearer 157 = .ok (.iconst 1, 1) := by decide +kernel
theorem dX1_readHearer_158 : decode cX1_readHearer 158 = .ok (.iadd, 1) := by decide +kernel
theorem dX1_readHearer_159 : decode cX1_readHearer 159 = .ok (.putfield 91, 3) := by decide +kernel
theorem dX1_readHearer_162 : decode cX1_readHearer 162 = .ok (.iconst 1, 1) := by decide +kernel
theorem dX1_readHearer_163 : decode cX1_readHearer 163 = .ok (.ireturn, 1) := by decide +kernel
theorem dX1_readLine_0 : decode cX1_readLine 0 = .ok (.aload_n 0, 1) := by decide +kernel
theorem dX1_readLine_1 : decode cX1_readLine 1 = .ok (.getfield 21, 3) := by decide +kernel
theorem dX1_readLine_4 : decode cX1_readLine 4 = .ok (.getfield 48, 3) := by decide +kernel
theorem dX1_readLine_7 : decode cX1_readLine 7 = .ok (.ifCond .ne 8, 3) := by decide +kernel
theorem dX1_readLine_10 : decode cX1_readLine 10 = .ok (.aload_n 0, 1) := by decide +kernel
theorem dX1_readLine_11 : decode cX1_readLine 11 = .ok (.invokevirtual 81, 3) := by decide +kernel
theorem dX1_readLine_14 : decode cX1_readLine 14 = .ok (.ireturn, 1) := by decide +kernel
theorem dX1_readLine_15 : decode cX1_readLine 15 = .ok (.aload_n 0, 1) := by decide +kernel
theorem dX1_readLine_16 : decode cX1_readLine 16 = .ok (.getfield 12, 3) := by decide +kernel
theorem dX1_readLine_19 : decode cX1_readLine 19 = .ok (.ldc 84, 2) := by decide +kernel
theorem dX1_readLine_21 : decode cX1_readLine 21 = .ok (.invokevirtual 54, 3) := by decide +kernel
theorem dX1_readLine_24 : decode cX1_readLine 24 = .ok (.ifCond .eq 8, 3) := by decide +kernel
theorem dX1_readLine_27 : decode cX1_readLine 27 = .ok (.aload_n 0, 1) := by decide +kernel
theorem dX1_readLine_28 : decode cX1_readLine 28 = .ok (.invokevirtual 86, 3) := by decide +kernel
theorem dX1_readLine_31 : decode cX1_readLine 31 = .ok (.ireturn, 1) := by decide +kernel
theorem dX1_readLine_32 : decode cX1_readLine 32 = .ok (.aload_n 0, 1) := by decide +kernel
theorem dX1_readLine_33 : decode cX1_readLine 33 = .ok (.getfield 12, 3) := by decide +kernel
theorem dX1_readLine_36 : decode cX1_readLine 36 = .ok (.ldc 89, 2) := by decide +kernel
theorem dX1_readLine_38 : decode cX1_readLine 38 = .ok (.invokevirtual 54, 3) := by decide +kernel
theorem dX1_readLine_41 : decode cX1_readLine 41 = .ok (.ifCond .eq 27, 3) := by decide +kernel
theorem dX1_readLine_44 : decode cX1_readLine 44 = .ok (.aload_n 0, 1) := by decide +kernel
theorem dX1_readLine_45 : decode cX1_readLine 45 = .ok (.getfield 21, 3) := by decide +kernel
theorem dX1_readLine_48 : decode cX1_readLine 48 = .ok (.getfield 91, 3) := by decide +kernel
theorem dX1_readLine_51 : decode cX1_readLine 51 = .ok (.iconst 4, 1) := by decide +kernel
theorem dX1_readLine_52 : decode cX1_readLine 52 = .ok (.if_icmp .ge 10, 3) := by decide +kernel
theorem dX1_readLine_55 : decode cX1_readLine 55 = .ok (.aload_n 0, 1) := by decide +kernel
theorem dX1_readLine_56 : decode cX1_readLine 56 = .ok (.invokevirtual 94, 3) := by decide +kernel
theorem dX1_readLine_59 : decode cX1_readLine 59 = .ok (.goto 8, 3) := by decide +kernel
theorem dX1_readLine_62 : decode cX1_readLine 62 = .ok (.aload_n 0, 1) := by decide +kernel
theorem dX1_readLine_63 : decode cX1_readLine 63 = .ok (.iconst 3, 1) := by decide +kernel
theorem dX1_readLine_64 : decode cX1_readLine 64 = .ok (.invokevirtual 58, 3) := by decide +kernel
theorem dX1_readLine_67 : decode cX1_readLine 67 = .ok (.ireturn, 1) := by decide +kernel
theorem dX1_readLine_68 : decode cX1_readLine 68 = .ok (.aload_n 0, 1) := by decide +kernel
theorem dX1_readLine_69 : decode cX1_readLine 69 = .ok (.getfield 12, 3) := by decide +kernel
theorem dX1_readLine_72 : decode cX1_readLine 72 = .ok (.ldc 97, 2) := by decide +kernel
theorem dX1_readLine_74 : decode cX1_readLine 74 = .ok (.invokevirtual 54, 3) := by decide +kernel
theorem dX1_readLine_77 : decode cX1_readLine 77 = .ok (.ifCond .eq 28, 3) := by decide +kernel
theorem dX1_readLine_80 : decode cX1_readLine 80 = .ok (.aload_n 0, 1) := by decide +kernel
theorem dX1_readLine_81 : decode cX1_readLine 81 = .ok (.getfield 21, 3) := by decide +kernel
theorem dX1_readLine_84 : decode cX1_readLine 84 = .ok (.getfield 99, 3) := by decide +kernel
theorem dX1_readLine_87 : decode cX1_readLine 87 = .ok (.bipush 8, 2) := by decide +kernel
theorem dX1_readLine_89 : decode cX1_readLine 89 = .ok (.if_icmp .ge 10, 3) := by decide +kernel
theorem dX1_readLine_92 : decode cX1_readLine 92 = .ok (.aload_n 0, 1) := by decide +kernel
theorem dX1_readLine_93 : decode cX1_readLine 93 = .ok (.invokevirtual 102, 3) := by decide +kernel
theorem dX1_readLine_96 : decode cX1_readLine 96 = .ok (.goto 8, 3) := by decide +kernel
theorem dX1_readLine_99 : decode cX1_readLine 99 = .ok (.aload_n 0, 1) := by decide +kernel
theorem dX1_readLine_100 : decode cX1_readLine 100 = .ok (.iconst 3, 1) := by decide +kernel
theorem dX1_readLine_101 : decode cX1_readLine 101 = .ok (.invokevirtual 58, 3) := by decide +kernel
theorem dX1_readLine_104 : decode cX1_readLine 104 = .ok (.ireturn, 1) := by decide +kernel
theorem dX1_readLine_105 : decode cX1_readLine 105 = .ok (.aload_n 0, 1) := by decide +kernel
theorem dX1_readLine_106 : decode cX1_readLine 106 = .ok (.getfield 12, 3) := by decide +kernel
theorem dX1_readLine_109 : decode cX1_readLine 109 = .ok (.ldc 105, 2) := by decide +kernel
theorem dX1_readLine_111 : decode cX1_readLine 111 = .ok (.invokevirtual 54, 3) := by decide +kernel
theorem dX1_readLine_114 : decode cX1_readLine 114 = .ok (.ifCond .eq 27, 3) := by decide +kernel
theorem dX1_readLine_117 : decode cX1_readLine 117 = .ok (.aload_n 0, 1) := by decide +kernel
theorem dX1_readLine_118 : decode cX1_readLine 118 = .ok (.getfield 21, 3) := by decide +kernel
theorem dX1_readLine_121 : decode cX1_readLine 121 = .ok (.getfield 107, 3) := by decide +kernel
theorem dX1_readLine_124 : decode cX1_readLine 124 = .ok (.iconst 4, 1) := by decide +kernel
theorem dX1_readLine_125 : decode cX1_readLine 125 = .ok (.if_icmp .ge 10, 3) := by decide +kernel
theorem dX1_readLine_128 : decode cX1_readLine 128 = .ok (.aload_n 0, 1) := by decide +kernel
theorem dX1_readLine_129 : decode cX1_readLine 129 = .ok (.invokevirtual 110, 3) := by decide +kernel
theorem dX1_readLine_132 : decode cX1_readLine 132 = .ok (.goto 8, 3) := by decide +kernel
theorem dX1_readLine_135 : decode cX1_readLine 135 = .ok (.aload_n 0, 1) := by decide +kernel
theorem dX1_readLine_136 : decode cX1_readLine 136 = .ok (.iconst 3, 1) := by decide +kernel
theorem dX1_readLine_137 : decode cX1_readLine 137 = .ok (.invokevirtual 58, 3) := by decide +kernel
theorem dX1_readLine_140 : decode cX1_readLine 140 = .ok (.ireturn, 1) := by decide +kernel
theorem dX1_readLine_141 : decode cX1_readLine 141 = .ok (.aload_n 0, 1) := by decide +kernel
theorem dX1_readLine_142 : decode cX1_readLine 142 = .ok (.getfield 12, 3) := by decide +kernel
theorem dX1_readLine_145 : decode cX1_readLine 145 = .ok (.ldc 113, 2) := by decide +kernel
theorem dX1_readLine_147 : decode cX1_readLine 147 = .ok (.invokevirtual 54, 3) := by decide +kernel
theorem dX1_readLine_150 : decode cX1_readLine 150 = .ok (.ifCond .eq 28, 3) := by decide +kernel
theorem dX1_readLine_153 : decode cX1_readLine 153 = .ok (.aload_n 0, 1) := by decide +kernel
theorem dX1_readLine_154 : decode cX1_readLine 154 = .ok (.getfield 21, 3) := by decide +kernel
theorem dX1_readLine_157 : decode cX1_readLine 157 = .ok (.getfield 115, 3) := by decide +kernel
theorem dX1_readLine_160 : decode cX1_readLine 160 = .ok (.bipush 6, 2) := by decide +kernel
theorem dX1_readLine_162 : decode cX1_readLine 162 = .ok (.if_icmp .ge 10, 3) := by decide +kernel
theorem dX1_readLine_165 : decode cX1_readLine 165 = .ok (.aload_n 0, 1) := by decide +kernel
theorem dX1_readLine_166 : decode cX1_readLine 166 = .ok (.invokevirtual 117, 3) := by decide +kernel
theorem dX1_readLine_169 : decode cX1_readLine 169 = .ok (.goto 8, 3) := by decide +kernel
theorem dX1_readLine_172 : decode cX1_readLine 172 = .ok (.aload_n 0, 1) := by decide +kernel
theorem dX1_readLine_173 : decode cX1_readLine 173 = .ok (.iconst 3, 1) := by decide +kernel
theorem dX1_readLine_174 : decode cX1_readLine 174 = .ok (.invokevirtual 58, 3) := by decide +kernel
theorem dX1_readLine_177 : decode cX1_readLine 177 = .ok (.ireturn, 1) := by decide +kernel
theorem dX1_readLine_178 : decode cX1_readLine 178 = .ok (.aload_n 0, 1) := by decide +kernel
theorem dX1_readLine_179 : decode cX1_readLine 179 = .ok (.getfield 12, 3) := by decide +kernel
theorem dX1_readLine_182 : decode cX1_readLine 182 = .ok (.ldc 120, 2) := by decide +kernel
theorem dX1_readLine_184 : decode cX1_readLine 184 = .ok (.invokevirtual 54, 3) := by decide +kernel
theorem dX1_readLine_187 : decode cX1_readLine 187 = .ok (.ifCond .eq 10, 3) := by decide +kernel
theorem dX1_readLine_190 : decode cX1_readLine 190 = .ok (.aload_n 0, 1) := by decide +kernel
theorem dX1_readLine_191 : decode cX1_readLine 191 = .ok (.invokevirtual 122, 3) := by decide +kernel
theorem dX1_readLine_194 : decode cX1_readLine 194 = .ok (.goto 8, 3) := by decide +kernel
theorem dX1_readLine_197 : decode cX1_readLine 197 = .ok (.aload_n 0, 1) := by decide +kernel
theorem dX1_readLine_198 : decode cX1_readLine 198 = .ok (.iconst 1, 1) := by decide +kernel
theorem dX1_readLine_199 : decode cX1_readLine 199 = .ok (.invokevirtual 58, 3) := by decide +kernel
theorem dX1_readLine_202 : decode cX1_readLine 202 = .ok (.ireturn, 1) := by decide +kernel
theorem dX1_readNews_0 : decode cX1_readNews 0 = .ok (.aload_n 0, 1) := by decide +kernel
theorem dX1_readNews_1 : decode cX1_readNews 1 = .ok (.getfield 12, 3) := by decide +kernel
theorem dX1_readNews_4 : decode cX1_readNews 4 = .ok (.invokevirtual 62, 3) := by decide +kernel
theorem dX1_readNews_7 : decode cX1_readNews 7 = .ok (.aload_n 0, 1) := by decide +kernel
theorem dX1_readNews_8 : decode cX1_readNews 8 = .ok (.getfield 12, 3) := by decide +kernel
theorem dX1_readNews_11 : decode cX1_readNews 11 = .ok (.ldc 180, 2) := by decide +kernel
theorem dX1_readNews_13 : decode cX1_readNews 13 = .ok (.invokevirtual 54, 3) := by decide +kernel
theorem dX1_readNews_16 : decode cX1_readNews 16 = .ok (.istore_n 1, 1) := by decide +kernel
theorem dX1_readNews_17 : decode cX1_readNews 17 = .ok (.aload_n 0, 1) := by decide +kernel
theorem dX1_readNews_18 : decode cX1_readNews 18 = .ok (.iload_n 1, 1) := by decide +kernel
theorem dX1_readNews_19 : decode cX1_readNews 19 = .ok (.ifCond .eq 8, 3) := by decide +kernel
theorem dX1_readNews_22 : decode cX1_readNews 22 = .ok (.ldc 180, 2) := by decide +kernel
theorem dX1_readNews_24 : decode cX1_readNews 24 = .ok (.goto 5, 3) := by decide +kernel
theorem dX1_readNews_27 : decode cX1_readNews 27 = .ok (.ldc 182, 2) := by decide +kernel
theorem dX1_readNews_29 : decode cX1_readNews 29 = .ok (.iconst 1, 1) := by decide +kernel
theorem dX1_readNews_30 : decode cX1_readNews 30 = .ok (.bipush 99, 2) := by decide +kernel
theorem dX1_readNews_32 : decode cX1_readNews 32 = .ok (.invokevirtual 129, 3) := by decide +kernel
theorem dX1_readNews_35 : decode cX1_readNews 35 = .ok (.ifCond .ne 5, 3) := by decide +kernel
theorem dX1_readNews_38 : decode cX1_readNews 38 = .ok (.iconst 0, 1) := by decide +kernel
theorem dX1_readNews_39 : decode cX1_readNews 39 = .ok (.ireturn, 1) := by decide +kernel
theorem dX1_readNews_40 : decode cX1_readNews 40 = .ok (.aload_n 0, 1) := by decide +kernel
theorem dX1_readNews_41 : decode cX1_readNews 41 = .ok (.getfield 21, 3) := by decide +kernel
theorem dX1_readNews_44 : decode cX1_readNews 44 = .ok (.getfield 184, 3) := by decide +kernel
theorem dX1_readNews_47 : decode cX1_readNews 47 = .ok (.aload_n 0, 1) := by decide +kernel
theorem dX1_readNews_48 : decode cX1_readNews 48 = .ok (.getfield 21, 3) := by decide +kernel
theorem dX1_readNews_51 : decode cX1_readNews 51 = .ok (.getfield 115, 3) := by decide +kernel
theorem dX1_readNews_54 : decode cX1_readNews 54 = .ok (.iload_n 1, 1) := by decide +kernel
theorem dX1_readNews_55 : decode cX1_readNews 55 = .ok (.ifCond .eq 10, 3) := by decide +kernel
theorem dX1_readNews_58 : decode cX1_readNews 58 = .ok (.aload_n 0, 1) := by decide +kernel
theorem dX1_readNews_59 : decode cX1_readNews 59 = .ok (.getfield 68, 3) := by decide +kernel
theorem dX1_readNews_62 : decode cX1_readNews 62 = .ok (.goto 8, 3) := by decide +kernel
theorem dX1_readNews_65 : decode cX1_readNews 65 = .ok (.aload_n 0, 1) := by decide +kernel
theorem dX1_readNews_66 : decode cX1_readNews 66 = .ok (.getfield 68, 3) := by decide +kernel
theorem dX1_readNews_69 : decode cX1_readNews 69 = .ok (.ineg, 1) := by decide +kernel
theorem dX1_readNews_70 : decode cX1_readNews 70 = .ok (.iastore, 1) := by decide +kernel
theorem dX1_readNews_71 : decode cX1_readNews 71 = .ok (.aload_n 0, 1) := by decide +kernel
theorem dX1_readNews_72 : decode cX1_readNews 72 = .ok (.getfield 21, 3) := by decide +kernel
theorem dX1_readNews_75 : decode cX1_readNews 75 = .ok (.dup, 1) := by decide +kernel
theorem dX1_readNews_76 : decode cX1_readNews 76 = .ok (.getfield 115, 3) := by decide +kernel
theorem dX1_readNews_79 : decode cX1_readNews 79 = .ok (.iconst 1, 1) := by decide +kernel
theorem dX1_readNews_80 : decode cX1_readNews 80 = .ok (.iadd, 1) := by decide +kernel
theorem dX1_readNews_81 : decode cX1_readNews 81 = .ok (.putfield 115, 3) := by decide +kernel
theorem dX1_readNews_84 : decode cX1_readNews 84 = .ok (.iconst 1, 1) := by decide +kernel
theorem dX1_readNews_85 : decode cX1_readNews 85 = .ok (.ireturn, 1) := by decide +kernel
theorem dX1_readPlan_0 : decode cX1_readPlan 0 = .ok (.aload_n 0, 1) := by decide +kernel
theorem dX1_readPlan_1 : decode cX1_readPlan 1 = .ok (.getfield 12, 3) := by decide +kernel
theorem dX1_readPlan_4 : decode cX1_readPlan 4 = .ok (.invokevirtual 62, 3) := by decide +kernel
theorem dX1_readPlan_7 : decode cX1_readPlan 7 = .ok (.iconst 0, 1) := by decide +kernel
theorem dX1_readPlan_8 : decode cX1_readPlan 8 = .ok (.istore_n 1, 1) := by decide +kernel
theorem dX1_readPlan_9 : decode cX1_readPlan 9 = .ok (.iconst 0, 1) := by decide +kernel
theorem dX1_readPlan_10 : decode cX1_readPlan 10 = .ok (.istore_n 2, 1) := by decide +kernel
theorem dX1_readPlan_11 : decode cX1_readPlan 11 = .ok (.iload_n 2, 1) := by decide +kernel
theorem dX1_readPlan_12 : decode cX1_readPlan 12 = .ok (.sipush 900, 3) := by decide +kernel
theorem dX1_readPlan_15 : decode cX1_readPlan 15 = .ok (.if_icmp .ge 87, 3) := by decide +kernel
theorem dX1_readPlan_18 : decode cX1_readPlan 18 = .ok (.iload_n 1, 1) := by decide +kernel
theorem dX1_readPlan_19 : decode cX1_readPlan 19 = .ok (.ifCond .eq 14, 3) := by decide +kernel
theorem dX1_readPlan_22 : decode cX1_readPlan 22 = .ok (.aload_n 0, 1) := by decide +kernel
theorem dX1_readPlan_23 : decode cX1_readPlan 23 = .ok (.getfield 12, 3) := by decide +kernel
theorem dX1_readPlan_26 : decode cX1_readPlan 26 = .ok (.getfield 38, 3) := by decide +kernel
theorem dX1_readPlan_29 : decode cX1_readPlan 29 = .ok (.iconst 2, 1) := by decide +kernel
theorem dX1_readPlan_30 : decode cX1_readPlan 30 = .ok (.if_icmp .ne 72, 3) := by decide +kernel
theorem dX1_readPlan_33 : decode cX1_readPlan 33 = .ok (.aload_n 0, 1) := by decide +kernel
theorem dX1_readPlan_34 : decode cX1_readPlan 34 = .ok (.iconst 0, 1) := by decide +kernel
theorem dX1_readPlan_35 : decode cX1_readPlan 35 = .ok (.aload_n 0, 1) := by decide +kernel
theorem dX1_readPlan_36 : decode cX1_readPlan 36 = .ok (.getfield 21, 3) := by decide +kernel
theorem dX1_readPlan_39 : decode cX1_readPlan 39 = .ok (.getfield 99, 3) := by decide +kernel
theorem dX1_readPlan_42 : decode cX1_readPlan 42 = .ok (.iconst 1, 1) := by decide +kernel
theorem dX1_readPlan_43 : decode cX1_readPlan 43 = .ok (.isub, 1) := by decide +kernel
theorem dX1_readPlan_44 : decode cX1_readPlan 44 = .ok (.invokevirtual 71, 3) := by decide +kernel
theorem dX1_readPlan_47 : decode cX1_readPlan 47 = .ok (.ifCond .ne 5, 3) := by decide +kernel
theorem dX1_readPlan_50 : decode cX1_readPlan 50 = .ok (.iconst 0, 1) := by decide +kernel
theorem dX1_readPlan_51 : decode cX1_readPlan 51 = .ok (.ireturn, 1) := by decide +kernel
theorem dX1_readPlan_52 : decode cX1_readPlan 52 = .ok (.iload_n 1, 1) := by decide +kernel
theorem dX1_readPlan_53 : decode cX1_readPlan 53 = .ok (.iconst 5, 1) := by decide +kernel
theorem dX1_readPlan_54 : decode cX1_readPlan 54 = .ok (.if_icmp .lt 9, 3) := by decide +kernel
theorem dX1_readPlan_57 : decode cX1_readPlan 57 = .ok (.aload_n 0, 1) := by decide +kernel
theorem dX1_readPlan_58 : decode cX1_readPlan 58 = .ok (.iconst 3, 1) := by decide +kernel
theorem dX1_readPlan_59 : decode cX1_readPlan 59 = .ok (.invokevirtual 58, 3) := by decide +kernel
theorem dX1_readPlan_62 : decode cX1_readPlan 62 = .ok (.ireturn, 1) := by decide +kernel
theorem dX1_readPlan_63 : decode cX1_readPlan 63 = .ok (.aload_n 0, 1) := by decide +kernel
theorem dX1_readPlan_64 : decode cX1_readPlan 64 = .ok (.getfield 21, 3) := by decide +kernel
theorem dX1_readPlan_67 : decode cX1_readPlan 67 = .ok (.getfield 174, 3) := by decide +kernel
theorem dX1_readPlan_70 : decode cX1_readPlan 70 = .ok (.aload_n 0, 1) := by decide +kernel
theorem dX1_readPlan_71 : decode cX1_readPlan 71 = .ok (.getfield 21, 3) := by decide +kernel
theorem dX1_readPlan_74 : decode cX1_readPlan 74 = .ok (.getfield 107, 3) := by decide +kernel
theorem dX1_readPlan_77 : decode cX1_readPlan 77 = .ok (.iconst 5, 1) := by decide +kernel
theorem dX1_readPlan_78 : decode cX1_readPlan 78 = .ok (.imul, 1) := by decide +kernel
theorem dX1_readPlan_79 : decode cX1_readPlan 79 = .ok (.iload_n 1, 1) := by decide +kernel
theorem dX1_readPlan_80 : decode cX1_readPlan 80 = .ok (.iadd, 1) := by decide +kernel
theorem dX1_readPlan_81 : decode cX1_readPlan 81 = .ok (.aload_n 0, 1) := by decide +kernel
theorem dX1_readPlan_82 : decode cX1_readPlan 82 = .ok (.getfield 68, 3) := by decide +kernel
theorem dX1_readPlan_85 : decode cX1_readPlan 85 = .ok (.iastore, 1) := by decide +kernel
theorem dX1_readPlan_86 : decode cX1_readPlan 86 = .ok (.iinc 1 1, 3) := by decide +kernel
theorem dX1_readPlan_89 : decode cX1_readPlan 89 = .ok (.aload_n 0, 1) := by decide +kernel
theorem dX1_readPlan_90 : decode cX1_readPlan 90 = .ok (.getfield 12, 3) := by decide +kernel
theorem dX1_readPlan_93 : decode cX1_readPlan 93 = .ok (.invokevirtual 62, 3) := by decide +kernel
theorem dX1_readPlan_96 : decode cX1_readPlan 96 = .ok (.iinc 2 1, 3) := by decide +kernel
theorem dX1_readPlan_99 : decode cX1_readPlan 99 = .ok (.goto (-88), 3) := by decide +kernel
theorem dX1_readPlan_102 : decode cX1_readPlan 102 = .ok (.aload_n 0, 1) := by decide +kernel
theorem dX1_readPlan_103 : decode cX1_readPlan 103 = .ok (.getfield 21, 3) := by decide +kernel
theorem dX1_readPlan_106 : decode cX1_readPlan 106 = .ok (.getfield 177, 3) := by decide +kernel
theorem dX1_readPlan_109 : decode cX1_readPlan 109 = .ok (.aload_n 0, 1) := by decide +kernel
theorem dX1_readPlan_110 : decode cX1_readPlan 110 = .ok (.getfield 21, 3) := by decide +kernel
theorem dX1_readPlan_113 : decode cX1_readPlan 113 = .ok (.getfield 107, 3) := by decide +kernel
theorem dX1_readPlan_116 : decode cX1_readPlan 116 = .ok (.iload_n 1, 1) := by decide +kernel
theorem dX1_readPlan_117 : decode cX1_readPlan 117 = .ok (.iastore, 1) := by decide +kernel
theorem dX1_readPlan_118 : decode cX1_readPlan 118 = .ok (.aload_n 0, 1) := by decide +kernel
theorem dX1_readPlan_119 : decode cX1_readPlan 119 = .ok (.getfield 21, 3) := by decide +kernel
theorem dX1_readPlan_122 : decode cX1_readPlan 122 = .ok (.dup, 1) := by decide +kernel
theorem dX1_readPlan_123 : decode cX1_readPlan 123 = .ok (.getfield 107, 3) := by decide +kernel
theorem dX1_readPlan_126 : decode cX1_readPlan 126 = .ok (.iconst 1, 1) := by decide +kernel
theorem dX1_readPlan_127 : decode cX1_readPlan 127 = .ok (.iadd, 1) := by decide +kernel
theorem dX1_readPlan_128 : decode cX1_readPlan 128 = .ok (.putfield 107, 3) := by decide +kernel
theorem dX1_readPlan_131 : decode cX1_readPlan 131 = .ok (.iconst 1, 1) := by decide +kernel
theorem dX1_readPlan_132 : decode cX1_readPlan 132 = .ok (.ireturn, 1) := by decide +kernel
theorem dX1_readTells_0 : decode cX1_readTells 0 = .ok (.aload_n 0, 1) := by decide +kernel
theorem dX1_readTells_1 : decode cX1_readTells 1 = .ok (.getfield 12, 3) := by decide +kernel
theorem dX1_readTells_4 : decode cX1_readTells 4 = .ok (.invokevirtual 62, 3) := by decide +kernel
theorem dX1_readTells_7 : decode cX1_readTells 7 = .ok (.aload_n 0, 1) := by decide +kernel
theorem dX1_readTells_8 : decode cX1_readTells 8 = .ok (.iconst 0, 1) := by decide +kernel
theorem dX1_readTells_9 : decode cX1_readTells 9 = .ok (.aload_n 0, 1) := by decide +kernel
theorem dX1_readTells_10 : decode cX1_readTells 10 = .ok (.getfield 21, 3) := by decide +kernel
theorem dX1_readTells_13 : decode cX1_readTells 13 = .ok (.getfield 91, 3) := by decide +kernel
theorem dX1_readTells_16 : decode cX1_readTells 16 = .ok (.iconst 1, 1) := by decide +kernel
theorem dX1_readTells_17 : decode cX1_readTells 17 = .ok (.isub, 1) := by decide +kernel
theorem dX1_readTells_18 : decode cX1_readTells 18 = .ok (.invokevirtual 78, 3) := by decide +kernel
theorem dX1_readTells_21 : decode cX1_readTells 21 = .ok (.ifCond .ne 5, 3) := by decide +kernel
theorem dX1_readTells_24 : decode cX1_readTells 24 = .ok (.iconst 0, 1) := by decide +kernel
theorem dX1_readTells_25 : decode cX1_readTells 25 = .ok (.ireturn, 1) := by decide +kernel
theorem dX1_readTells_26 : decode cX1_readTells 26 = .ok (.aload_n 0, 1) := by decide +kernel
theorem dX1_readTells_27 : decode cX1_readTells 27 = .ok (.getfield 68, 3) := by decide +kernel
theorem dX1_readTells_30 : decode cX1_readTells 30 = .ok (.istore_n 1, 1) := by decide +kernel
theorem dX1_readTells_31 : decode cX1_readTells 31 = .ok (.aload_n 0, 1) := by decide +kernel
theorem dX1_readTells_32 : decode cX1_readTells 32 = .ok (.iconst 0, 1) := by decide +kernel
theorem dX1_readTells_33 : decode cX1_readTells 33 = .ok (.aload_n 0, 1) := by decide +kernel
theorem dX1_readTells_34 : decode cX1_readTells 34 = .ok (.getfield 21, 3) := by decide +kernel
theorem dX1_readTells_37 : decode cX1_readTells 37 = .ok (.getfield 91, 3) := by decide +kernel
theorem dX1_readTells_40 : decode cX1_readTells 40 = .ok (.iconst 1, 1) := by decide +kernel
theorem dX1_readTells_41 : decode cX1_readTells 41 = .ok (.isub, 1) := by decide +kernel
theorem dX1_readTells_42 : decode cX1_readTells 42 = .ok (.invokevirtual 71, 3) := by decide +kernel
theorem dX1_readTells_45 : decode cX1_readTells 45 = .ok (.ifCond .ne 5, 3) := by decide +kernel
theorem dX1_readTells_48 : decode cX1_readTells 48 = .ok (.iconst 0, 1) := by decide +kernel
theorem dX1_readTells_49 : decode cX1_readTells 49 = .ok (.ireturn, 1) := by decide +kernel
theorem dX1_readTells_50 : decode cX1_readTells 50 = .ok (.aload_n 0, 1) := by decide +kernel
theorem dX1_readTells_51 : decode cX1_readTells 51 = .ok (.getfield 68, 3) := by decide +kernel
theorem dX1_readTells_54 : decode cX1_readTells 54 = .ok (.iload_n 1, 1) := by decide +kernel
theorem dX1_readTells_55 : decode cX1_readTells 55 = .ok (.if_icmp .ne 9, 3) := by decide +kernel
theorem dX1_readTells_58 : decode cX1_readTells 58 = .ok (.aload_n 0, 1) := by decide +kernel
theorem dX1_readTells_59 : decode cX1_readTells 59 = .ok (.iconst 2, 1) := by decide +kernel
theorem dX1_readTells_60 : decode cX1_readTells 60 = .ok (.invokevirtual 58, 3) := by decide +kernel
theorem dX1_readTells_63 : decode cX1_readTells 63 = .ok (.ireturn, 1) := by decide +kernel
theorem dX1_readTells_64 : decode cX1_readTells 64 = .ok (.aload_n 0, 1) := by decide +kernel
theorem dX1_readTells_65 : decode cX1_readTells 65 = .ok (.getfield 21, 3) := by decide +kernel
theorem dX1_readTells_68 : decode cX1_readTells 68 = .ok (.getfield 187, 3) := by decide +kernel
theorem dX1_readTells_71 : decode cX1_readTells 71 = .ok (.iload_n 1, 1) := by decide +kernel
theorem dX1_readTells_72 : decode cX1_readTells 72 = .ok (.dup2, 1) := by decide +kernel
theorem dX1_readTells_73 : decode cX1_readTells 73 = .ok (.iaload, 1) := by decide +kernel
theorem dX1_readTells_74 : decode cX1_readTells 74 = .ok (.iconst 1, 1) := by decide +kernel
theorem dX1_readTells_75 : decode cX1_readTells 75 = .ok (.aload_n 0, 1) := by decide +kernel
theorem dX1_readTells_76 : decode cX1_readTells 76 = .ok (.getfield 68, 3) := by decide +kernel
theorem dX1_readTells_79 : decode cX1_readTells 79 = .ok (.ishl, 1) := by decide +kernel
theorem dX1_readTells_80 : decode cX1_readTells 80 = .ok (.ior, 1) := by decide +kernel
theorem dX1_readTells_81 : decode cX1_readTells 81 = .ok (.iastore, 1) := by decide +kernel
theorem dX1_readTells_82 : decode cX1_readTells 82 = .ok (.aload_n 0, 1) := by decide +kernel
theorem dX1_readTells_83 : decode cX1_readTells 83 = .ok (.getfield 12, 3) := by decide +kernel
theorem dX1_readTells_86 : decode cX1_readTells 86 = .ok (.invokevirtual 62, 3) := by decide +kernel
theorem dX1_readTells_89 : decode cX1_readTells 89 = .ok (.iconst 1, 1) := by decide +kernel
theorem dX1_readTells_90 : decode cX1_readTells 90 = .ok (.ireturn, 1) := by decide +kernel
theorem dX1_readWord_0 : decode cX1_readWord 0 = .ok (.aload_n 0, 1) := by decide +kernel
theorem dX1_readWord_1 : decode cX1_readWord 1 = .ok (.getfield 12, 3) := by decide +kernel
theorem dX1_readWord_4 : decode cX1_readWord 4 = .ok (.invokevirtual 62, 3) := by decide +kernel
theorem dX1_readWord_7 : decode cX1_readWord 7 = .ok (.aload_n 0, 1) := by decide +kernel
theorem dX1_readWord_8 : decode cX1_readWord 8 = .ok (.ldc 164, 2) := by decide +kernel
theorem dX1_readWord_10 : decode cX1_readWord 10 = .ok (.iconst 0, 1) := by decide +kernel
theorem dX1_readWord_11 : decode cX1_readWord 11 = .ok (.sipush 999, 3) := by decide +kernel
theorem dX1_readWord_14 : decode cX1_readWord 14 = .ok (.invokevirtual 129, 3) := by decide +kernel
theorem dX1_readWord_17 : decode cX1_readWord 17 = .ok (.ifCond .ne 5, 3) := by decide +kernel
theorem dX1_readWord_20 : decode cX1_readWord 20 = .ok (.iconst 0, 1) := by decide +kernel
theorem dX1_readWord_21 : decode cX1_readWord 21 = .ok (.ireturn, 1) := by decide +kernel
theorem dX1_readWord_22 : decode cX1_readWord 22 = .ok (.aload_n 0, 1) := by decide +kernel
theorem dX1_readWord_23 : decode cX1_readWord 23 = .ok (.getfield 68, 3) := by decide +kernel
theorem dX1_readWord_26 : decode cX1_readWord 26 = .ok (.istore_n 1, 1) := by decide +kernel
theorem dX1_readWord_27 : decode cX1_readWord 27 = .ok (.aload_n 0, 1) := by decide +kernel
theorem dX1_readWord_28 : decode cX1_readWord 28 = .ok (.ldc 166, 2) := by decide +kernel
theorem dX1_readWord_30 : decode cX1_readWord 30 = .ok (.iconst 0, 1) := by decide +kernel
theorem dX1_readWord_31 : decode cX1_readWord 31 = .ok (.aload_n 0, 1) := by decide +kernel
theorem dX1_readWord_32 : decode cX1_readWord 32 = .ok (.getfield 21, 3) := by decide +kernel
theorem dX1_readWord_35 : decode cX1_readWord 35 = .ok (.getfield 133, 3) := by decide +kernel
theorem dX1_readWord_38 : decode cX1_readWord 38 = .ok (.iconst 1, 1) := by decide +kernel
theorem dX1_readWord_39 : decode cX1_readWord 39 = .ok (.isub, 1) := by decide +kernel
theorem dX1_readWord_40 : decode cX1_readWord 40 = .ok (.invokevirtual 129, 3) := by decide +kernel
theorem dX1_readWord_43 : decode cX1_readWord 43 = .ok (.ifCond .ne 5, 3) := by decide +kernel
theorem dX1_readWord_46 : decode cX1_readWord 46 = .ok (.iconst 0, 1) := by decide +kernel
theorem dX1_readWord_47 : decode cX1_readWord 47 = .ok (.ireturn, 1) := by decide +kernel
theorem dX1_readWord_48 : decode cX1_readWord 48 = .ok (.iconst 1, 1) := by decide +kernel
theorem dX1_readWord_49 : decode cX1_readWord 49 = .ok (.aload_n 0, 1) := by decide +kernel
theorem dX1_readWord_50 : decode cX1_readWord 50 = .ok (.getfield 68, 3) := by decide +kernel
theorem dX1_readWord_53 : decode cX1_readWord 53 = .ok (.ishl, 1) := by decide +kernel
theorem dX1_readWord_54 : decode cX1_readWord 54 = .ok (.istore_n 2, 1) := by decide +kernel
theorem dX1_readWord_55 : decode cX1_readWord 55 = .ok (.iconst 0, 1) := by decide +kernel
theorem dX1_readWord_56 : decode cX1_readWord 56 = .ok (.istore_n 3, 1) := by decide +kernel
theorem dX1_readWord_57 : decode cX1_readWord 57 = .ok (.iload_n 3, 1) := by decide +kernel
theorem dX1_readWord_58 : decode cX1_readWord 58 = .ok (.sipush 900, 3) := by decide +kernel
theorem dX1_readWord_61 : decode cX1_readWord 61 = .ok (.if_icmp .ge 48, 3) := by decide +kernel
theorem dX1_readWord_64 : decode cX1_readWord 64 = .ok (.aload_n 0, 1) := by decide +kernel
theorem dX1_readWord_65 : decode cX1_readWord 65 = .ok (.getfield 12, 3) := by decide +kernel
theorem dX1_readWord_68 : decode cX1_readWord 68 = .ok (.getfield 38, 3) := by decide +kernel
theorem dX1_readWord_71 : decode cX1_readWord 71 = .ok (.iconst 2, 1) := by decide +kernel
theorem dX1_readWord_72 : decode cX1_readWord 72 = .ok (.if_icmp .ne 37, 3) := by decide +kernel
theorem dX1_readWord_75 : decode cX1_readWord 75 = .ok (.aload_n 0, 1) := by decide +kernel
theorem dX1_readWord_76 : decode cX1_readWord 76 = .ok (.iconst 0, 1) := by decide +kernel
theorem dX1_readWord_77 : decode cX1_readWord 77 = .ok (.aload_n 0, 1) := by decide +kernel
theorem dX1_readWord_78 : decode cX1_readWord 78 = .ok (.getfield 21, 3) := by decide +kernel
theorem dX1_readWord_81 : decode cX1_readWord 81 = .ok (.getfield 133, 3) := by decide +kernel
theorem dX1_readWord_84 : decode cX1_readWord 84 = .ok (.iconst 1, 1) := by decide +kernel
theorem dX1_readWord_85 : decode cX1_readWord 85 = .ok (.isub, 1) := by decide +kernel
theorem dX1_readWord_86 : decode cX1_readWord 86 = .ok (.invokevirtual 78, 3) := by decide +kernel
theorem dX1_readWord_89 : decode cX1_readWord 89 = .ok (.ifCond .ne 5, 3) := by decide +kernel
theorem dX1_readWord_92 : decode cX1_readWord 92 = .ok (.iconst 0, 1) := by decide +kernel
theorem dX1_readWord_93 : decode cX1_readWord 93 = .ok (.ireturn, 1) := by decide +kernel
theorem dX1_readWord_94 : decode cX1_readWord 94 = .ok (.iload_n 2, 1) := by decide +kernel
theorem dX1_readWord_95 : decode cX1_readWord 95 = .ok (.iconst 1, 1) := by decide +kernel
theorem dX1_readWord_96 : decode cX1_readWord 96 = .ok (.aload_n 0, 1) := by decide +kernel
theorem dX1_readWord_97 : decode cX1_readWord 97 = .ok (.getfield 68, 3) := by decide +kernel
theorem dX1_readWord_100 : decode cX1_readWord 100 = .ok (.ishl, 1) := by decide +kernel
theorem dX1_readWord_101 : decode cX1_readWord 101 = .ok (.ior, 1) := by decide +kernel
theorem dX1_readWord_102 : decode cX1_readWord 102 = .ok (.istore_n 2, 1) := by decide +kernel
theorem dX1_readWord_103 : decode cX1_readWord 103 = .ok (.iinc 3 1, 3) := by decide +kernel
theorem dX1_readWord_106 : decode cX1_readWord 106 = .ok (.goto (-49), 3) := by decide +kernel
theorem dX1_readWord_109 : decode cX1_readWord 109 = .ok (.aload_n 0, 1) := by decide +kernel
theorem dX1_readWord_110 : decode cX1_readWord 110 = .ok (.getfield 21, 3) := by decide +kernel
theorem dX1_readWord_113 : decode cX1_readWord 113 = .ok (.getfield 168, 3) := by decide +kernel
theorem dX1_readWord_116 : decode cX1_readWord 116 = .ok (.aload_n 0, 1) := by decide +kernel
theorem dX1_readWord_117 : decode cX1_readWord 117 = .ok (.getfield 21, 3) := by decide +kernel
theorem dX1_readWord_120 : decode cX1_readWord 120 = .ok (.getfield 99, 3) := by decide +kernel
theorem dX1_readWord_123 : decode cX1_readWord 123 = .ok (.iload_n 1, 1) := by decide +kernel
theorem dX1_readWord_124 : decode cX1_readWord 124 = .ok (.iastore, 1) := by decide +kernel
theorem dX1_readWord_125 : decode cX1_readWord 125 = .ok (.aload_n 0, 1) := by decide +kernel
theorem dX1_readWord_126 : decode cX1_readWord 126 = .ok (.getfield 21, 3) := by decide +kernel
theorem dX1_readWord_129 : decode cX1_readWord 129 = .ok (.getfield 171, 3) := by decide +kernel
theorem dX1_readWord_132 : decode cX1_readWord 132 = .ok (.aload_n 0, 1) := by decide +kernel
theorem dX1_readWord_133 : decode cX1_readWord 133 = .ok (.getfield 21, 3) := by decide +kernel
theorem dX1_readWord_136 : decode cX1_readWord 136 = .ok (.getfield 99, 3) := by decide +kernel
theorem dX1_readWord_139 : decode cX1_readWord 139 = .ok (.iload_n 2, 1) := by decide +kernel
theorem dX1_readWord_140 : decode cX1_readWord 140 = .ok (.iastore, 1) := by decide +kernel
theorem dX1_readWord_141 : decode cX1_readWord 141 = .ok (.aload_n 0, 1) := by decide +kernel
theorem dX1_readWord_142 : decode cX1_readWord 142 = .ok (.getfield 21, 3) := by decide +kernel
theorem dX1_readWord_145 : decode cX1_readWord 145 = .ok (.dup, 1) := by decide +kernel
theorem dX1_readWord_146 : decode cX1_readWord 146 = .ok (.getfield 99, 3) := by decide +kernel
theorem dX1_readWord_149 : decode cX1_readWord 149 = .ok (.iconst 1, 1) := by decide +kernel
theorem dX1_readWord_150 : decode cX1_readWord 150 = .ok (.iadd, 1) := by decide +kernel
theorem dX1_readWord_151 : decode cX1_readWord 151 = .ok (.putfield 99, 3) := by decide +kernel
theorem dX1_readWord_154 : decode cX1_readWord 154 = .ok (.iconst 1, 1) := by decide +kernel
theorem dX1_readWord_155 : decode cX1_readWord 155 = .ok (.ireturn, 1) := by decide +kernel
theorem dX1_takeNamed_0 : decode cX1_takeNamed 0 = .ok (.aload_n 0, 1) := by decide +kernel
theorem dX1_takeNamed_1 : decode cX1_takeNamed 1 = .ok (.aload_n 1, 1) := by decide +kernel
theorem dX1_takeNamed_2 : decode cX1_takeNamed 2 = .ok (.invokevirtual 75, 3) := by decide +kernel
theorem dX1_takeNamed_5 : decode cX1_takeNamed 5 = .ok (.ifCond .eq 16, 3) := by decide +kernel
theorem dX1_takeNamed_8 : decode cX1_takeNamed 8 = .ok (.aload_n 0, 1) := by decide +kernel
theorem dX1_takeNamed_9 : decode cX1_takeNamed 9 = .ok (.iload_n 2, 1) := by decide +kernel
theorem dX1_takeNamed_10 : decode cX1_takeNamed 10 = .ok (.iload_n 3, 1) := by decide +kernel
theorem dX1_takeNamed_11 : decode cX1_takeNamed 11 = .ok (.invokevirtual 78, 3) := by decide +kernel
theorem dX1_takeNamed_14 : decode cX1_takeNamed 14 = .ok (.ifCond .eq 7, 3) := by decide +kernel
theorem dX1_takeNamed_17 : decode cX1_takeNamed 17 = .ok (.iconst 1, 1) := by decide +kernel
theorem dX1_takeNamed_18 : decode cX1_takeNamed 18 = .ok (.goto 4, 3) := by decide +kernel
theorem dX1_takeNamed_21 : decode cX1_takeNamed 21 = .ok (.iconst 0, 1) := by decide +kernel
theorem dX1_takeNamed_22 : decode cX1_takeNamed 22 = .ok (.ireturn, 1) := by decide +kernel
theorem dX1_takeNumber_0 : decode cX1_takeNumber 0 = .ok (.aload_n 0, 1) := by decide +kernel
theorem dX1_takeNumber_1 : decode cX1_takeNumber 1 = .ok (.iload_n 1, 1) := by decide +kernel
theorem dX1_takeNumber_2 : decode cX1_takeNumber 2 = .ok (.iload_n 2, 1) := by decide +kernel
theorem dX1_takeNumber_3 : decode cX1_takeNumber 3 = .ok (.invokevirtual 71, 3) := by decide +kernel
theorem dX1_takeNumber_6 : decode cX1_takeNumber 6 = .ok (.ifCond .ne 5, 3) := by decide +kernel
theorem dX1_takeNumber_9 : decode cX1_takeNumber 9 = .ok (.iconst 0, 1) := by decide +kernel
theorem dX1_takeNumber_10 : decode cX1_takeNumber 10 = .ok (.ireturn, 1) := by decide +kernel
theorem dX1_takeNumber_11 : decode cX1_takeNumber 11 = .ok (.aload_n 0, 1) := by decide +kernel
theorem dX1_takeNumber_12 : decode cX1_takeNumber 12 = .ok (.getfield 12, 3) := by decide +kernel
theorem dX1_takeNumber_15 : decode cX1_takeNumber 15 = .ok (.invokevirtual 62, 3) := by decide +kernel
theorem dX1_takeNumber_18 : decode cX1_takeNumber 18 = .ok (.iconst 1, 1) := by decide +kernel
theorem dX1_takeNumber_19 : decode cX1_takeNumber 19 = .ok (.ireturn, 1) := by decide +kernel
theorem dX1_takeSemicolon_0 : decode cX1_takeSemicolon 0 = .ok (.aload_n 0, 1) := by decide +kernel
theorem dX1_takeSemicolon_1 : decode cX1_takeSemicolon 1 = .ok (.getfield 12, 3) := by decide +kernel
theorem dX1_takeSemicolon_4 : decode cX1_takeSemicolon 4 = .ok (.getfield 38, 3) := by decide +kernel
theorem dX1_takeSemicolon_7 : decode cX1_takeSemicolon 7 = .ok (.iconst 3, 1) := by decide +kernel
theorem dX1_takeSemicolon_8 : decode cX1_takeSemicolon 8 = .ok (.if_icmp .eq 9, 3) := by decide +kernel
theorem dX1_takeSemicolon_11 : decode cX1_takeSemicolon 11 = .ok (.aload_n 0, 1) := by decide +kernel
theorem dX1_takeSemicolon_12 : decode cX1_takeSemicolon 12 = .ok (.iconst 1, 1) := by decide +kernel
theorem dX1_takeSemicolon_13 : decode cX1_takeSemicolon 13 = .ok (.invokevirtual 58, 3) := by decide +kernel
theorem dX1_takeSemicolon_16 : decode cX1_takeSemicolon 16 = .ok (.ireturn, 1) := by decide +kernel
theorem dX1_takeSemicolon_17 : decode cX1_takeSemicolon 17 = .ok (.aload_n 0, 1) := by decide +kernel
theorem dX1_takeSemicolon_18 : decode cX1_takeSemicolon 18 = .ok (.getfield 12, 3) := by decide +kernel
theorem dX1_takeSemicolon_21 : decode cX1_takeSemicolon 21 = .ok (.invokevirtual 62, 3) := by decide +kernel
theorem dX1_takeSemicolon_24 : decode cX1_takeSemicolon 24 = .ok (.iconst 1, 1) := by decide +kernel
theorem dX1_takeSemicolon_25 : decode cX1_takeSemicolon 25 = .ok (.ireturn, 1) := by decide +kernel
theorem dX1_takeWord_0 : decode cX1_takeWord 0 = .ok (.aload_n 0, 1) := by decide +kernel
theorem dX1_takeWord_1 : decode cX1_takeWord 1 = .ok (.getfield 12, 3) := by decide +kernel
theorem dX1_takeWord_4 : decode cX1_takeWord 4 = .ok (.aload_n 1, 1) := by decide +kernel
theorem dX1_takeWord_5 : decode cX1_takeWord 5 = .ok (.invokevirtual 54, 3) := by decide +kernel
theorem dX1_takeWord_8 : decode cX1_takeWord 8 = .ok (.ifCond .ne 9, 3) := by decide +kernel
theorem dX1_takeWord_11 : decode cX1_takeWord 11 = .ok (.aload_n 0, 1) := by decide +kernel
theorem dX1_takeWord_12 : decode cX1_takeWord 12 = .ok (.iconst 1, 1) := by decide +kernel
theorem dX1_takeWord_13 : decode cX1_takeWord 13 = .ok (.invokevirtual 58, 3) := by decide +kernel
theorem dX1_takeWord_16 : decode cX1_takeWord 16 = .ok (.ireturn, 1) := by decide +kernel
theorem dX1_takeWord_17 : decode cX1_takeWord 17 = .ok (.aload_n 0, 1) := by decide +kernel
theorem dX1_takeWord_18 : decode cX1_takeWord 18 = .ok (.getfield 12, 3) := by decide +kernel
theorem dX1_takeWord_21 : decode cX1_takeWord 21 = .ok (.invokevirtual 62, 3) := by decide +kernel
theorem dX1_takeWord_24 : decode cX1_takeWord 24 = .ok (.iconst 1, 1) := by decide +kernel
theorem dX1_takeWord_25 : decode cX1_takeWord 25 = .ok (.ireturn, 1) := by decide +kernel
theorem dX9_advance_0 : decode cX9_advance 0 = .ok (.aload_n 0, 1) := by decide +kernel
theorem dX9_advance_1 : decode cX9_advance 1 = .ok (.aload_n 0, 1) := by decide +kernel
theorem dX9_advance_2 : decode cX9_advance 2 = .ok (.getfield 19, 3) := by decide +kernel
theorem dX9_advance_5 : decode cX9_advance 5 = .ok (.putfield 25, 3) := by decide +kernel
theorem dX9_advance_8 : decode cX9_advance 8 = .ok (.aload_n 0, 1) := by decide +kernel
theorem dX9_advance_9 : decode cX9_advance 9 = .ok (.getfield 25, 3) := by decide +kernel
theorem dX9_advance_12 : decode cX9_advance 12 = .ok (.aload_n 0, 1) := by decide +kernel
theorem dX9_advance_13 : decode cX9_advance 13 = .ok (.getfield 15, 3) := by decide +kernel
theorem dX9_advance_16 : decode cX9_advance 16 = .ok (.if_icmp .ge 32, 3) := by decide +kernel
theorem dX9_advance_19 : decode cX9_advance 19 = .ok (.aload_n 0, 1) := by decide +kernel
theorem dX9_advance_20 : decode cX9_advance 20 = .ok (.getfield 9, 3) := by decide +kernel
theorem dX9_advance_23 : decode cX9_advance 23 = .ok (.aload_n 0, 1) := by decide +kernel
theorem dX9_advance_24 : decode cX9_advance 24 = .ok (.getfield 25, 3) := by decide +kernel
theorem dX9_advance_27 : decode cX9_advance 27 = .ok (.baload, 1) := by decide +kernel
theorem dX9_advance_28 : decode cX9_advance 28 = .ok (.invokestatic 28, 3) := by decide +kernel
theorem dX9_advance_31 : decode cX9_advance 31 = .ok (.iconst 5, 1) := by decide +kernel
theorem dX9_advance_32 : decode cX9_advance 32 = .ok (.if_icmp .ne 16, 3) := by decide +kernel
theorem dX9_advance_35 : decode cX9_advance 35 = .ok (.aload_n 0, 1) := by decide +kernel
theorem dX9_advance_36 : decode cX9_advance 36 = .ok (.dup, 1) := by decide +kernel
theorem dX9_advance_37 : decode cX9_advance 37 = .ok (.getfield 25, 3) := by decide +kernel
theorem dX9_advance_40 : decode cX9_advance 40 = .ok (.iconst 1, 1) := by decide +kernel
theorem dX9_advance_41 : decode cX9_advance 41 = .ok (.iadd, 1) := by decide +kernel
theorem dX9_advance_42 : decode cX9_advance 42 = .ok (.putfield 25, 3) := by decide +kernel
theorem dX9_advance_45 : decode cX9_advance 45 = .ok (.goto (-37), 3) := by decide +kernel
theorem dX9_advance_48 : decode cX9_advance 48 = .ok (.aload_n 0, 1) := by decide +kernel
theorem dX9_advance_49 : decode cX9_advance 49 = .ok (.aload_n 0, 1) := by decide +kernel
theorem dX9_advance_50 : decode cX9_advance 50 = .ok (.getfield 25, 3) := by decide +kernel
theorem dX9_advance_53 : decode cX9_advance 53 = .ok (.putfield 19, 3) := by decide +kernel
theorem dX9_advance_56 : decode cX9_advance 56 = .ok (.aload_n 0, 1) := by decide +kernel
theorem dX9_advance_57 : decode cX9_advance 57 = .ok (.aload_n 0, 1) := by decide +kernel
theorem dX9_advance_58 : decode cX9_advance 58 = .ok (.getfield 25, 3) := by decide +kernel
theorem dX9_advance_61 : decode cX9_advance 61 = .ok (.aload_n 0, 1) := by decide +kernel
theorem dX9_advance_62 : decode cX9_advance 62 = .ok (.getfield 15, 3) := by decide +kernel
theorem dX9_advance_65 : decode cX9_advance 65 = .ok (.if_icmp .ge 18, 3) := by decide +kernel
theorem dX9_advance_68 : decode cX9_advance 68 = .ok (.aload_n 0, 1) := by decide +kernel
theorem dX9_advance_69 : decode cX9_advance 69 = .ok (.getfield 9, 3) := by decide +kernel
theorem dX9_advance_72 : decode cX9_advance 72 = .ok (.aload_n 0, 1) := by decide +kernel
theorem dX9_advance_73 : decode cX9_advance 73 = .ok (.getfield 25, 3) := by decide +kernel
theorem dX9_advance_76 : decode cX9_advance 76 = .ok (.baload, 1) := by decide +kernel
theorem dX9_advance_77 : decode cX9_advance 77 = .ok (.invokestatic 28, 3) := by decide +kernel
theorem dX9_advance_80 : decode cX9_advance 80 = .ok (.goto 4, 3) := by decide +kernel
theorem dX9_advance_83 : decode cX9_advance 83 = .ok (.iconst 0, 1) := by decide +kernel
theorem dX9_advance_84 : decode cX9_advance 84 = .ok (.putfield 32, 3) := by decide +kernel
theorem dX9_advance_87 : decode cX9_advance 87 = .ok (.aload_n 0, 1) := by decide +kernel
theorem dX9_advance_88 : decode cX9_advance 88 = .ok (.iconst 0, 1) := by decide +kernel
theorem dX9_advance_89 : decode cX9_advance 89 = .ok (.putfield 35, 3) := by decide +kernel
theorem dX9_advance_92 : decode cX9_advance 92 = .ok (.aload_n 0, 1) := by decide +kernel
theorem dX9_advance_93 : decode cX9_advance 93 = .ok (.getfield 32, 3) := by decide +kernel
theorem dX9_advance_96 : decode cX9_advance 96 = .ok (.iconst 3, 1) := by decide +kernel
theorem dX9_advance_97 : decode cX9_advance 97 = .ok (.if_icmp .eq 11, 3) := by decide +kernel
theorem dX9_advance_100 : decode cX9_advance 100 = .ok (.aload_n 0, 1) := by decide +kernel
theorem dX9_advance_101 : decode cX9_advance 101 = .ok (.getfield 32, 3) := by decide +kernel
theorem dX9_advance_104 : decode cX9_advance 104 = .ok (.iconst 4, 1) := by decide +kernel
theorem dX9_advance_105 : decode cX9_advance 105 = .ok (.if_icmp .ne 14, 3) := by decide +kernel
theorem dX9_advance_108 : decode cX9_advance 108 = .ok (.aload_n 0, 1) := by decide +kernel
theorem dX9_advance_109 : decode cX9_advance 109 = .ok (.aload_n 0, 1) := by decide +kernel
theorem dX9_advance_110 : decode cX9_advance 110 = .ok (.getfield 25, 3) := by decide +kernel
theorem dX9_advance_113 : decode cX9_advance 113 = .ok (.iconst 1, 1) := by decide +kernel
theorem dX9_advance_114 : decode cX9_advance 114 = .ok (.iadd, 1) := by decide +kernel
theorem dX9_advance_115 : decode cX9_advance 115 = .ok (.putfield 19, 3) := by decide +kernel
theorem dX9_advance_118 : decode cX9_advance 118 = .ok (.return_, 1) := by decide +kernel
theorem dX9_advance_119 : decode cX9_advance 119 = .ok (.aload_n 0, 1) := by decide +kernel
theorem dX9_advance_120 : decode cX9_advance 120 = .ok (.getfield 19, 3) := by decide +kernel
theorem dX9_advance_123 : decode cX9_advance 123 = .ok (.aload_n 0, 1) := by decide +kernel
theorem dX9_advance_124 : decode cX9_advance 124 = .ok (.getfield 15, 3) := by decide +kernel
theorem dX9_advance_127 : decode cX9_advance 127 = .ok (.if_icmp .ge 72, 3) := by decide +kernel
theorem dX9_advance_130 : decode cX9_advance 130 = .ok (.aload_n 0, 1) := by decide +kernel
theorem dX9_advance_131 : decode cX9_advance 131 = .ok (.getfield 9, 3) := by decide +kernel
theorem dX9_advance_134 : decode cX9_advance 134 = .ok (.aload_n 0, 1) := by decide +kernel
theorem dX9_advance_135 : decode cX9_advance 135 = .ok (.getfield 19, 3) := by decide +kernel
theorem dX9_advance_138 : decode cX9_advance 138 = .ok (.baload, 1) := by decide +kernel
theorem dX9_advance_139 : decode cX9_advance 139 = .ok (.invokestatic 28, 3) := by decide +kernel
theorem dX9_advance_142 : decode cX9_advance 142 = .ok (.aload_n 0, 1) := by decide +kernel
theorem dX9_advance_143 : decode cX9_advance 143 = .ok (.getfield 32, 3) := by decide +kernel
theorem dX9_advance_146 : decode cX9_advance 146 = .ok (.if_icmp .ne 53, 3) := by decide +kernel
theorem dX9_advance_149 : decode cX9_advance 149 = .ok (.aload_n 0, 1) := by decide +kernel
theorem dX9_advance_150 : decode cX9_advance 150 = .ok (.getfield 32, 3) := by decide +kernel
theorem dX9_advance_153 : decode cX9_advance 153 = .ok (.iconst 2, 1) := by decide +kernel
theorem dX9_advance_154 : decode cX9_advance 154 = .ok (.if_icmp .ne 32, 3) := by decide +kernel
theorem dX9_advance_157 : decode cX9_advance 157 = .ok (.aload_n 0, 1) := by decide +kernel
theorem dX9_advance_158 : decode cX9_advance 158 = .ok (.ldc 38, 2) := by decide +kernel
theorem dX9_advance_160 : decode cX9_advance 160 = .ok (.aload_n 0, 1) := by decide +kernel
theorem dX9_advance_161 : decode cX9_advance 161 = .ok (.getfield 35, 3) := by decide +kernel
theorem dX9_advance_164 : decode cX9_advance 164 = .ok (.bipush 10, 2) := by decide +kernel
theorem dX9_advance_166 : decode cX9_advance 166 = .ok (.imul, 1) := by decide +kernel
theorem dX9_advance_167 : decode cX9_advance 167 = .ok (.aload_n 0, 1) := by decide +kernel
theorem dX9_advance_168 : decode cX9_advance 168 = .ok (.getfield 9, 3) := by decide +kernel
theorem dX9_advance_171 : decode cX9_advance 171 = .ok (.aload_n 0, 1) := by decide +kernel
theorem dX9_advance_172 : decode cX9_advance 172 = .ok (.getfield 19, 3) := by decide +kernel
theorem dX9_advance_175 : decode cX9_advance 175 = .ok (.baload, 1) := by decide +kernel
theorem dX9_advance_176 : decode cX9_advance 176 = .ok (.iadd, 1) := by decide +kernel
theorem dX9_advance_177 : decode cX9_advance 177 = .ok (.bipush 48, 2) := by decide +kernel
theorem dX9_advance_179 : decode cX9_advance 179 = .ok (.isub, 1) := by decide +kernel
theorem dX9_advance_180 : decode cX9_advance 180 = .ok (.invokestatic 39, 3) := by decide +kernel
theorem dX9_advance_183 : decode cX9_advance 183 = .ok (.putfield 35, 3) := by decide +kernel
theorem dX9_advance_186 : decode cX9_advance 186 = .ok (.aload_n 0, 1) := by decide +kernel
theorem dX9_advance_187 : decode cX9_advance 187 = .ok (.dup, 1) := by decide +kernel
theorem dX9_advance_188 : decode cX9_advance 188 = .ok (.getfield 19, 3) := by decide +kernel
theorem dX9_advance_191 : decode cX9_advance 191 = .ok (.iconst 1, 1) := by decide +kernel
theorem dX9_advance_192 : decode cX9_advance 192 = .ok (.iadd, 1) := by decide +kernel
theorem dX9_advance_193 : decode cX9_advance 193 = .ok (.putfield 19, 3) := by decide +kernel
theorem dX9_advance_196 : decode cX9_advance 196 = .ok (.goto (-77), 3) := by decide +kernel
theorem dX9_advance_199 : decode cX9_advance 199 = .ok (.return_, 1) := by decide +kernel
theorem dX9_kindOf_0 : decode cX9_kindOf 0 = .ok (.iload_n 0, 1) := by decide +kernel
theorem dX9_kindOf_1 : decode cX9_kindOf 1 = .ok (.bipush 97, 2) := by decide +kernel
theorem dX9_kindOf_3 : decode cX9_kindOf 3 = .ok (.if_icmp .lt 11, 3) := by decide +kernel
theorem dX9_kindOf_6 : decode cX9_kindOf 6 = .ok (.iload_n 0, 1) := by decide +kernel
theorem dX9_kindOf_7 : decode cX9_kindOf 7 = .ok (.bipush 122, 2) := by decide +kernel
theorem dX9_kindOf_9 : decode cX9_kindOf 9 = .ok (.if_icmp .gt 5, 3) := by decide +kernel
theorem dX9_kindOf_12 : decode cX9_kindOf 12 = .ok (.iconst 1, 1) := by decide +kernel
theorem dX9_kindOf_13 : decode cX9_kindOf 13 = .ok (.ireturn, 1) := by decide +kernel
theorem dX9_kindOf_14 : decode cX9_kindOf 14 = .ok (.iload_n 0, 1) := by decide +kernel
theorem dX9_kindOf_15 : decode cX9_kindOf 15 = .ok (.bipush 48, 2) := by decide +kernel
theorem dX9_kindOf_17 : decode cX9_kindOf 17 = .ok (.if_icmp .lt 11, 3) := by decide +kernel
theorem dX9_kindOf_20 : decode cX9_kindOf 20 = .ok (.iload_n 0, 1) := by decide +kernel
theorem dX9_kindOf_21 : decode cX9_kindOf 21 = .ok (.bipush 57, 2) := by decide +kernel
theorem dX9_kindOf_23 : decode cX9_kindOf 23 = .ok (.if_icmp .gt 5, 3) := by decide +kernel
theorem dX9_kindOf_26 : decode cX9_kindOf 26 = .ok (.iconst 2, 1) := by decide +kernel
theorem dX9_kindOf_27 : decode cX9_kindOf 27 = .ok (.ireturn, 1) := by decide +kernel
theorem dX9_kindOf_28 : decode cX9_kindOf 28 = .ok (.iload_n 0, 1) := by decide +kernel
theorem dX9_kindOf_29 : decode cX9_kindOf 29 = .ok (.bipush 32, 2) := by decide +kernel
theorem dX9_kindOf_31 : decode cX9_kindOf 31 = .ok (.if_icmp .eq 9, 3) := by decide +kernel
theorem dX9_kindOf_34 : decode cX9_kindOf 34 = .ok (.iload_n 0, 1) := by decide +kernel
theorem dX9_kindOf_35 : decode cX9_kindOf 35 = .ok (.bipush 10, 2) := by decide +kernel
theorem dX9_kindOf_37 : decode cX9_kindOf 37 = .ok (.if_icmp .ne 5, 3) := by decide +kernel
theorem dX9_kindOf_40 : decode cX9_kindOf 40 = .ok (.iconst 5, 1) := by decide +kernel
theorem dX9_kindOf_41 : decode cX9_kindOf 41 = .ok (.ireturn, 1) := by decide +kernel
theorem dX9_kindOf_42 : decode cX9_kindOf 42 = .ok (.iload_n 0, 1) := by decide +kernel
theorem dX9_kindOf_43 : decode cX9_kindOf 43 = .ok (.bipush 59, 2) := by decide +kernel
theorem dX9_kindOf_45 : decode cX9_kindOf 45 = .ok (.if_icmp .ne 7, 3) := by decide +kernel
theorem dX9_kindOf_48 : decode cX9_kindOf 48 = .ok (.iconst 3, 1) := by decide +kernel
theorem dX9_kindOf_49 : decode cX9_kindOf 49 = .ok (.goto 4, 3) := by decide +kernel
theorem dX9_kindOf_52 : decode cX9_kindOf 52 = .ok (.iconst 4, 1) := by decide +kernel
theorem dX9_kindOf_53 : decode cX9_kindOf 53 = .ok (.ireturn, 1) := by decide +kernel
theorem dX9_rewind_0 : decode cX9_rewind 0 = .ok (.aload_n 0, 1) := by decide +kernel
theorem dX9_rewind_1 : decode cX9_rewind 1 = .ok (.iconst 0, 1) := by decide +kernel
theorem dX9_rewind_2 : decode cX9_rewind 2 = .ok (.putfield 19, 3) := by decide +kernel
theorem dX9_rewind_5 : decode cX9_rewind 5 = .ok (.aload_n 0, 1) := by decide +kernel
theorem dX9_rewind_6 : decode cX9_rewind 6 = .ok (.invokevirtual 22, 3) := by decide +kernel
theorem dX9_rewind_9 : decode cX9_rewind 9 = .ok (.return_, 1) := by decide +kernel
theorem dX9_standsOn_0 : decode cX9_standsOn 0 = .ok (.aload_n 0, 1) := by decide +kernel
theorem dX9_standsOn_1 : decode cX9_standsOn 1 = .ok (.getfield 32, 3) := by decide +kernel
theorem dX9_standsOn_4 : decode cX9_standsOn 4 = .ok (.iconst 1, 1) := by decide +kernel
theorem dX9_standsOn_5 : decode cX9_standsOn 5 = .ok (.if_icmp .ne 19, 3) := by decide +kernel
theorem dX9_standsOn_8 : decode cX9_standsOn 8 = .ok (.aload_n 0, 1) := by decide +kernel
theorem dX9_standsOn_9 : decode cX9_standsOn 9 = .ok (.getfield 19, 3) := by decide +kernel
theorem dX9_standsOn_12 : decode cX9_standsOn 12 = .ok (.aload_n 0, 1) := by decide +kernel
theorem dX9_standsOn_13 : decode cX9_standsOn 13 = .ok (.getfield 25, 3) := by decide +kernel
theorem dX9_standsOn_16 : decode cX9_standsOn 16 = .ok (.isub, 1) := by decide +kernel
theorem dX9_standsOn_17 : decode cX9_standsOn 17 = .ok (.aload_n 1, 1) := by decide +kernel
theorem dX9_standsOn_18 : decode cX9_standsOn 18 = .ok (.invokevirtual 45, 3) := by decide +kernel
theorem dX9_standsOn_21 : decode cX9_standsOn 21 = .ok (.if_icmp .eq 5, 3) := by decide +kernel
theorem dX9_standsOn_24 : decode cX9_standsOn 24 = .ok (.iconst 0, 1) := by decide +kernel
theorem dX9_standsOn_25 : decode cX9_standsOn 25 = .ok (.ireturn, 1) := by decide +kernel
theorem dX9_standsOn_26 : decode cX9_standsOn 26 = .ok (.iconst 0, 1) := by decide +kernel
theorem dX9_standsOn_27 : decode cX9_standsOn 27 = .ok (.istore_n 2, 1) := by decide +kernel
theorem dX9_standsOn_28 : decode cX9_standsOn 28 = .ok (.iload_n 2, 1) := by decide +kernel
theorem dX9_standsOn_29 : decode cX9_standsOn 29 = .ok (.aload_n 1, 1) := by decide +kernel
theorem dX9_standsOn_30 : decode cX9_standsOn 30 = .ok (.invokevirtual 45, 3) := by decide +kernel
theorem dX9_standsOn_33 : decode cX9_standsOn 33 = .ok (.if_icmp .ge 30, 3) := by decide +kernel
theorem dX9_standsOn_36 : decode cX9_standsOn 36 = .ok (.aload_n 0, 1) := by decide +kernel
theorem dX9_standsOn_37 : decode cX9_standsOn 37 = .ok (.getfield 9, 3) := by decide +kernel
theorem dX9_standsOn_40 : decode cX9_standsOn 40 = .ok (.aload_n 0, 1) := by decide +kernel
theorem dX9_standsOn_41 : decode cX9_standsOn 41 = .ok (.getfield 25, 3) := by decide +kernel
theorem dX9_standsOn_44 : decode cX9_standsOn 44 = .ok (.iload_n 2, 1) := by decide +kernel
theorem dX9_standsOn_45 : decode cX9_standsOn 45 = .ok (.iadd, 1) := by decide +kernel
theorem dX9_standsOn_46 : decode cX9_standsOn 46 = .ok (.baload, 1) := by decide +kernel
theorem dX9_standsOn_47 : decode cX9_standsOn 47 = .ok (.aload_n 1, 1) := by decide +kernel
theorem dX9_standsOn_48 : decode cX9_standsOn 48 = .ok (.iload_n 2, 1) := by decide +kernel
theorem dX9_standsOn_49 : decode cX9_standsOn 49 = .ok (.invokevirtual 51, 3) := by decide +kernel
theorem dX9_standsOn_52 : decode cX9_standsOn 52 = .ok (.if_icmp .eq 5, 3) := by decide +kernel
theorem dX9_standsOn_55 : decode cX9_standsOn 55 = .ok (.iconst 0, 1) := by decide +kernel
theorem dX9_standsOn_56 : decode cX9_standsOn 56 = .ok (.ireturn, 1) := by decide +kernel
theorem dX9_standsOn_57 : decode cX9_standsOn 57 = .ok (.iinc 2 1, 3) := by decide +kernel
theorem dX9_standsOn_60 : decode cX9_standsOn 60 = .ok (.goto (-32), 3) := by decide +kernel
theorem dX9_standsOn_63 : decode cX9_standsOn 63 = .ok (.iconst 1, 1) := by decide +kernel
theorem dX9_standsOn_64 : decode cX9_standsOn 64 = .ok (.ireturn, 1) := by decide +kernel
