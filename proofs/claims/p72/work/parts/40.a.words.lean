theorem b_653 : Cond.methodLinkNest RX11 458 yX0_valueAt RX11 ∈ nests := ne (tin_6 _ (List.mem_of_getElem? (i := 2) rfl)) rfl
theorem b_654 : Cond.methodLinkNest RX11 461 yX3_note RX11 ∈ nests := ne (tin_6 _ (List.mem_of_getElem? (i := 6) rfl)) rfl
theorem b_655 : Cond.methodLinkNest RX11 369 yX0_put RX11 ∈ nests := ne (tin_6 _ (List.mem_of_getElem? (i := 10) rfl)) rfl
theorem b_656 : Cond.methodLink RX11 352 yX11_changeDesk ∈ BIG := bi (tin_5 _ (List.mem_of_getElem? (i := 238) rfl)) rfl
theorem b_657 : Cond.fieldLinkNest RX11 360 "GentleLetters$Log" "kinds" "[I" RX11 ∈ nests := ne (tin_1 _ (List.mem_of_getElem? (i := 79) rfl)) rfl
theorem b_658 : Cond.fieldLinkNest RX11 363 "GentleLetters$Log" "places" "[I" RX11 ∈ nests := ne (tin_1 _ (List.mem_of_getElem? (i := 81) rfl)) rfl
theorem b_659 : Cond.fieldLinkNest RX11 366 "GentleLetters$Log" "olds" "[I" RX11 ∈ nests := ne (tin_1 _ (List.mem_of_getElem? (i := 83) rfl)) rfl
theorem b_660 : Cond.fieldLink RX11 23 "GentleLetters" "images" "[LGentleLetters$Desk;" ∈ BIG := bi (tin_2 _ (List.mem_of_getElem? (i := 159) rfl)) rfl
theorem b_661 : Cond.methodLinkNest RX11 101 yX0_copyFrom RX11 ∈ nests := ne (tin_3 _ (List.mem_of_getElem? (i := 120) rfl)) rfl
theorem b_662 : Cond.fieldLink RX11 27 "GentleLetters" "imaged" "[Z" ∈ BIG := bi (tin_2 _ (List.mem_of_getElem? (i := 160) rfl)) rfl
theorem b_663 : Cond.code yX11_changeDesk cX11_changeDesk 5 (some .int) ∈ BIG := bi (tin_6 _ (List.mem_of_getElem? (i := 1) rfl)) rfl
theorem b_664 : Cond.instanceMethod yX11_changeDesk ∈ BIG := bi (tin_6 _ (List.mem_of_getElem? (i := 0) rfl)) rfl
theorem b_665 : Cond.selects RX11 yX11_changeDesk yX11_changeDesk ∈ BIG := bi (sin_6 _ (List.mem_map.mpr ⟨(yX11_changeDesk, 11), List.mem_of_getElem? (i := 11) rfl, rfl⟩)) rfl
theorem b_666 : Cond.code yX0_copyFrom cX0_copyFrom 2 none ∈ BIG := bi (tin_3 _ (List.mem_of_getElem? (i := 123) rfl)) rfl
theorem b_667 : Cond.instanceMethod yX0_copyFrom ∈ BIG := bi (tin_3 _ (List.mem_of_getElem? (i := 122) rfl)) rfl
theorem b_668 : Cond.selects RX0 yX0_copyFrom yX0_copyFrom ∈ BIG := bi (sin_2 _ (List.mem_map.mpr ⟨(yX0_copyFrom, 20), List.mem_of_getElem? (i := 4) rfl, rfl⟩)) rfl
theorem b_669 : Cond.code yX0_put cX0_put 4 none ∈ BIG := bi (tin_6 _ (List.mem_of_getElem? (i := 13) rfl)) rfl
theorem b_670 : Cond.instanceMethod yX0_put ∈ BIG := bi (tin_6 _ (List.mem_of_getElem? (i := 12) rfl)) rfl
theorem b_671 : Cond.selects RX0 yX0_put yX0_put ∈ BIG := bi (sin_6 _ (List.mem_map.mpr ⟨(yX0_put, 20), List.mem_of_getElem? (i := 14) rfl, rfl⟩)) rfl
theorem b_672 : Cond.code yX0_valueAt cX0_valueAt 3 (some .int) ∈ BIG := bi (tin_6 _ (List.mem_of_getElem? (i := 5) rfl)) rfl
theorem b_673 : Cond.instanceMethod yX0_valueAt ∈ BIG := bi (tin_6 _ (List.mem_of_getElem? (i := 4) rfl)) rfl
theorem b_674 : Cond.selects RX0 yX0_valueAt yX0_valueAt ∈ BIG := bi (sin_6 _ (List.mem_map.mpr ⟨(yX0_valueAt, 20), List.mem_of_getElem? (i := 12) rfl, rfl⟩)) rfl
theorem b_675 : Cond.code yX3_note cX3_note 4 none ∈ BIG := bi (tin_6 _ (List.mem_of_getElem? (i := 9) rfl)) rfl
theorem b_676 : Cond.instanceMethod yX3_note ∈ BIG := bi (tin_6 _ (List.mem_of_getElem? (i := 8) rfl)) rfl
theorem b_677 : Cond.selects RX3 yX3_note yX3_note ∈ BIG := bi (sin_6 _ (List.mem_map.mpr ⟨(yX3_note, 4), List.mem_of_getElem? (i := 13) rfl, rfl⟩)) rfl
theorem m_yX11_changeDesk : MV yX11_changeDesk cX11_changeDesk 5 (some .int) 3 := ⟨b_663, b_664, b_665, b_332, by decide +kernel⟩
theorem m_yX0_copyFrom : MV yX0_copyFrom cX0_copyFrom 2 none 1 := ⟨b_666, b_667, b_668, b_21, by decide +kernel⟩
theorem m_yX0_put : MV yX0_put cX0_put 4 none 3 := ⟨b_669, b_670, b_671, b_21, by decide +kernel⟩
theorem m_yX0_valueAt : MV yX0_valueAt cX0_valueAt 3 (some .int) 2 := ⟨b_672, b_673, b_674, b_21, by decide +kernel⟩
theorem m_yX3_note : MV yX3_note cX3_note 4 none 3 := ⟨b_675, b_676, b_677, b_652, by decide +kernel⟩
theorem dX11_back_0 : decode cX11_back 0 = .ok (.iload_n 1, 1) := by decide +kernel
theorem dX11_back_1 : decode cX11_back 1 = .ok (.ifCond .lt 8, 3) := by decide +kernel
theorem dX11_back_4 : decode cX11_back 4 = .ok (.iload_n 1, 1) := by decide +kernel
theorem dX11_back_5 : decode cX11_back 5 = .ok (.iconst 3, 1) := by decide +kernel
theorem dX11_back_6 : decode cX11_back 6 = .ok (.if_icmp .lt 6, 3) := by decide +kernel
theorem dX11_back_9 : decode cX11_back 9 = .ok (.bipush (-2), 2) := by decide +kernel
theorem dX11_back_11 : decode cX11_back 11 = .ok (.ireturn, 1) := by decide +kernel
theorem dX11_back_12 : decode cX11_back 12 = .ok (.aload_n 0, 1) := by decide +kernel
theorem dX11_back_13 : decode cX11_back 13 = .ok (.getfield 23, 3) := by decide +kernel
theorem dX11_back_16 : decode cX11_back 16 = .ok (.iload_n 1, 1) := by decide +kernel
theorem dX11_back_17 : decode cX11_back 17 = .ok (.aaload, 1) := by decide +kernel
theorem dX11_back_18 : decode cX11_back 18 = .ok (.astore_n 2, 1) := by decide +kernel
theorem dX11_back_19 : decode cX11_back 19 = .ok (.aload_n 2, 1) := by decide +kernel
theorem dX11_back_20 : decode cX11_back 20 = .ok (.ifnull 12, 3) := by decide +kernel
theorem dX11_back_23 : decode cX11_back 23 = .ok (.aload_n 0, 1) := by decide +kernel
theorem dX11_back_24 : decode cX11_back 24 = .ok (.getfield 27, 3) := by decide +kernel
theorem dX11_back_27 : decode cX11_back 27 = .ok (.iload_n 1, 1) := by decide +kernel
theorem dX11_back_28 : decode cX11_back 28 = .ok (.baload, 1) := by decide +kernel
theorem dX11_back_29 : decode cX11_back 29 = .ok (.ifCond .ne 6, 3) := by decide +kernel
theorem dX11_back_32 : decode cX11_back 32 = .ok (.bipush (-6), 2) := by decide +kernel
theorem dX11_back_34 : decode cX11_back 34 = .ok (.ireturn, 1) := by decide +kernel
theorem dX11_back_35 : decode cX11_back 35 = .ok (.aload_n 0, 1) := by decide +kernel
theorem dX11_back_36 : decode cX11_back 36 = .ok (.getfield 19, 3) := by decide +kernel
theorem dX11_back_39 : decode cX11_back 39 = .ok (.aload_n 2, 1) := by decide +kernel
theorem dX11_back_40 : decode cX11_back 40 = .ok (.invokevirtual 101, 3) := by decide +kernel
theorem dX11_back_43 : decode cX11_back 43 = .ok (.iconst 0, 1) := by decide +kernel
theorem dX11_back_44 : decode cX11_back 44 = .ok (.ireturn, 1) := by decide +kernel
theorem dX11_changeDesk_0 : decode cX11_changeDesk 0 = .ok (.aload_n 0, 1) := by decide +kernel
theorem dX11_changeDesk_1 : decode cX11_changeDesk 1 = .ok (.getfield 19, 3) := by decide +kernel
theorem dX11_changeDesk_4 : decode cX11_changeDesk 4 = .ok (.getfield 355, 3) := by decide +kernel
theorem dX11_changeDesk_7 : decode cX11_changeDesk 7 = .ok (.getfield 359, 3) := by decide +kernel
theorem dX11_changeDesk_10 : decode cX11_changeDesk 10 = .ok (.bipush 60, 2) := by decide +kernel
theorem dX11_changeDesk_12 : decode cX11_changeDesk 12 = .ok (.if_icmp .lt 6, 3) := by decide +kernel
theorem dX11_changeDesk_15 : decode cX11_changeDesk 15 = .ok (.bipush (-5), 2) := by decide +kernel
theorem dX11_changeDesk_17 : decode cX11_changeDesk 17 = .ok (.ireturn, 1) := by decide +kernel
theorem dX11_changeDesk_18 : decode cX11_changeDesk 18 = .ok (.aload_n 0, 1) := by decide +kernel
theorem dX11_changeDesk_19 : decode cX11_changeDesk 19 = .ok (.getfield 19, 3) := by decide +kernel
theorem dX11_changeDesk_22 : decode cX11_changeDesk 22 = .ok (.iload_n 1, 1) := by decide +kernel
theorem dX11_changeDesk_23 : decode cX11_changeDesk 23 = .ok (.iload_n 2, 1) := by decide +kernel
theorem dX11_changeDesk_24 : decode cX11_changeDesk 24 = .ok (.invokevirtual 458, 3) := by decide +kernel
theorem dX11_changeDesk_27 : decode cX11_changeDesk 27 = .ok (.istore 4, 2) := by decide +kernel
theorem dX11_changeDesk_29 : decode cX11_changeDesk 29 = .ok (.aload_n 0, 1) := by decide +kernel
theorem dX11_changeDesk_30 : decode cX11_changeDesk 30 = .ok (.getfield 19, 3) := by decide +kernel
theorem dX11_changeDesk_33 : decode cX11_changeDesk 33 = .ok (.getfield 355, 3) := by decide +kernel
theorem dX11_changeDesk_36 : decode cX11_changeDesk 36 = .ok (.iload_n 1, 1) := by decide +kernel
theorem dX11_changeDesk_37 : decode cX11_changeDesk 37 = .ok (.iload_n 2, 1) := by decide +kernel
theorem dX11_changeDesk_38 : decode cX11_changeDesk 38 = .ok (.iload 4, 2) := by decide +kernel
theorem dX11_changeDesk_40 : decode cX11_changeDesk 40 = .ok (.invokevirtual 461, 3) := by decide +kernel
theorem dX11_changeDesk_43 : decode cX11_changeDesk 43 = .ok (.aload_n 0, 1) := by decide +kernel
theorem dX11_changeDesk_44 : decode cX11_changeDesk 44 = .ok (.getfield 19, 3) := by decide +kernel
theorem dX11_changeDesk_47 : decode cX11_changeDesk 47 = .ok (.iload_n 1, 1) := by decide +kernel
theorem dX11_changeDesk_48 : decode cX11_changeDesk 48 = .ok (.iload_n 2, 1) := by decide +kernel
theorem dX11_changeDesk_49 : decode cX11_changeDesk 49 = .ok (.iload_n 3, 1) := by decide +kernel
theorem dX11_changeDesk_50 : decode cX11_changeDesk 50 = .ok (.invokevirtual 369, 3) := by decide +kernel
theorem dX11_changeDesk_53 : decode cX11_changeDesk 53 = .ok (.iload 4, 2) := by decide +kernel
theorem dX11_changeDesk_55 : decode cX11_changeDesk 55 = .ok (.ireturn, 1) := by decide +kernel
theorem dX11_doubt_0 : decode cX11_doubt 0 = .ok (.aload_n 0, 1) := by decide +kernel
theorem dX11_doubt_1 : decode cX11_doubt 1 = .ok (.getfield 19, 3) := by decide +kernel
theorem dX11_doubt_4 : decode cX11_doubt 4 = .ok (.iload_n 1, 1) := by decide +kernel
theorem dX11_doubt_5 : decode cX11_doubt 5 = .ok (.invokevirtual 122, 3) := by decide +kernel
theorem dX11_doubt_8 : decode cX11_doubt 8 = .ok (.ifCond .eq 24, 3) := by decide +kernel
theorem dX11_doubt_11 : decode cX11_doubt 11 = .ok (.aload_n 0, 1) := by decide +kernel
theorem dX11_doubt_12 : decode cX11_doubt 12 = .ok (.getfield 19, 3) := by decide +kernel
theorem dX11_doubt_15 : decode cX11_doubt 15 = .ok (.iload_n 2, 1) := by decide +kernel
theorem dX11_doubt_16 : decode cX11_doubt 16 = .ok (.invokevirtual 114, 3) := by decide +kernel
theorem dX11_doubt_19 : decode cX11_doubt 19 = .ok (.ifCond .eq 13, 3) := by decide +kernel
theorem dX11_doubt_22 : decode cX11_doubt 22 = .ok (.iload_n 3, 1) := by decide +kernel
theorem dX11_doubt_23 : decode cX11_doubt 23 = .ok (.ifCond .lt 9, 3) := by decide +kernel
theorem dX11_doubt_26 : decode cX11_doubt 26 = .ok (.iload_n 3, 1) := by decide +kernel
theorem dX11_doubt_27 : decode cX11_doubt 27 = .ok (.bipush 20, 2) := by decide +kernel
theorem dX11_doubt_29 : decode cX11_doubt 29 = .ok (.if_icmp .le 6, 3) := by decide +kernel
theorem dX11_doubt_32 : decode cX11_doubt 32 = .ok (.bipush (-2), 2) := by decide +kernel
theorem dX11_doubt_34 : decode cX11_doubt 34 = .ok (.ireturn, 1) := by decide +kernel
theorem dX11_doubt_35 : decode cX11_doubt 35 = .ok (.aload_n 0, 1) := by decide +kernel
theorem dX11_doubt_36 : decode cX11_doubt 36 = .ok (.iconst 2, 1) := by decide +kernel
theorem dX11_doubt_37 : decode cX11_doubt 37 = .ok (.iload_n 1, 1) := by decide +kernel
theorem dX11_doubt_38 : decode cX11_doubt 38 = .ok (.bipush 8, 2) := by decide +kernel
theorem dX11_doubt_40 : decode cX11_doubt 40 = .ok (.imul, 1) := by decide +kernel
theorem dX11_doubt_41 : decode cX11_doubt 41 = .ok (.iload_n 2, 1) := by decide +kernel
theorem dX11_doubt_42 : decode cX11_doubt 42 = .ok (.iadd, 1) := by decide +kernel
theorem dX11_doubt_43 : decode cX11_doubt 43 = .ok (.iload_n 3, 1) := by decide +kernel
theorem dX11_doubt_44 : decode cX11_doubt 44 = .ok (.invokevirtual 352, 3) := by decide +kernel
theorem dX11_doubt_47 : decode cX11_doubt 47 = .ok (.ireturn, 1) := by decide +kernel
theorem dX11_image_0 : decode cX11_image 0 = .ok (.iload_n 1, 1) := by decide +kernel
theorem dX11_image_1 : decode cX11_image 1 = .ok (.ifCond .lt 8, 3) := by decide +kernel
theorem dX11_image_4 : decode cX11_image 4 = .ok (.iload_n 1, 1) := by decide +kernel
theorem dX11_image_5 : decode cX11_image 5 = .ok (.iconst 3, 1) := by decide +kernel
theorem dX11_image_6 : decode cX11_image 6 = .ok (.if_icmp .lt 6, 3) := by decide +kernel
theorem dX11_image_9 : decode cX11_image 9 = .ok (.bipush (-2), 2) := by decide +kernel
theorem dX11_image_11 : decode cX11_image 11 = .ok (.ireturn, 1) := by decide +kernel
theorem dX11_image_12 : decode cX11_image 12 = .ok (.aload_n 0, 1) := by decide +kernel
theorem dX11_image_13 : decode cX11_image 13 = .ok (.getfield 23, 3) := by decide +kernel
theorem dX11_image_16 : decode cX11_image 16 = .ok (.iload_n 1, 1) := by decide +kernel
theorem dX11_image_17 : decode cX11_image 17 = .ok (.aaload, 1) := by decide +kernel
theorem dX11_image_18 : decode cX11_image 18 = .ok (.astore_n 2, 1) := by decide +kernel
theorem dX11_image_19 : decode cX11_image 19 = .ok (.aload_n 2, 1) := by decide +kernel
theorem dX11_image_20 : decode cX11_image 20 = .ok (.ifnonnull 6, 3) := by decide +kernel
theorem dX11_image_26 : decode cX11_image 26 = .ok (.aload_n 2, 1) := by decide +kernel
theorem dX11_image_27 : decode cX11_image 27 = .ok (.aload_n 0, 1) := by decide +kernel
theorem dX11_image_28 : decode cX11_image 28 = .ok (.getfield 19, 3) := by decide +kernel
theorem dX11_image_31 : decode cX11_image 31 = .ok (.invokevirtual 101, 3) := by decide +kernel
theorem dX11_image_34 : decode cX11_image 34 = .ok (.aload_n 0, 1) := by decide +kernel
theorem dX11_image_35 : decode cX11_image 35 = .ok (.getfield 27, 3) := by decide +kernel
theorem dX11_image_38 : decode cX11_image 38 = .ok (.iload_n 1, 1) := by decide +kernel
theorem dX11_image_39 : decode cX11_image 39 = .ok (.iconst 1, 1) := by decide +kernel
theorem dX11_image_40 : decode cX11_image 40 = .ok (.bastore, 1) := by decide +kernel
theorem dX11_image_41 : decode cX11_image 41 = .ok (.iconst 0, 1) := by decide +kernel
theorem dX11_image_42 : decode cX11_image 42 = .ok (.ireturn, 1) := by decide +kernel
theorem dX11_really_0 : decode cX11_really 0 = .ok (.aload_n 0, 1) := by decide +kernel
theorem dX11_really_1 : decode cX11_really 1 = .ok (.getfield 19, 3) := by decide +kernel
theorem dX11_really_4 : decode cX11_really 4 = .ok (.iload_n 1, 1) := by decide +kernel
theorem dX11_really_5 : decode cX11_really 5 = .ok (.invokevirtual 114, 3) := by decide +kernel
theorem dX11_really_8 : decode cX11_really 8 = .ok (.ifCond .ne 6, 3) := by decide +kernel
theorem dX11_really_11 : decode cX11_really 11 = .ok (.bipush (-2), 2) := by decide +kernel
theorem dX11_really_13 : decode cX11_really 13 = .ok (.ireturn, 1) := by decide +kernel
theorem dX11_really_14 : decode cX11_really 14 = .ok (.aload_n 0, 1) := by decide +kernel
theorem dX11_really_15 : decode cX11_really 15 = .ok (.iconst 1, 1) := by decide +kernel
theorem dX11_really_16 : decode cX11_really 16 = .ok (.iconst 0, 1) := by decide +kernel
theorem dX11_really_17 : decode cX11_really 17 = .ok (.iload_n 1, 1) := by decide +kernel
theorem dX11_really_18 : decode cX11_really 18 = .ok (.invokevirtual 352, 3) := by decide +kernel
theorem dX11_really_21 : decode cX11_really 21 = .ok (.ireturn, 1) := by decide +kernel
theorem dX11_undo_0 : decode cX11_undo 0 = .ok (.aload_n 0, 1) := by decide +kernel
theorem dX11_undo_1 : decode cX11_undo 1 = .ok (.getfield 19, 3) := by decide +kernel
theorem dX11_undo_4 : decode cX11_undo 4 = .ok (.invokevirtual 245, 3) := by decide +kernel
theorem dX11_undo_7 : decode cX11_undo 7 = .ok (.ifCond .ne 6, 3) := by decide +kernel
theorem dX11_undo_10 : decode cX11_undo 10 = .ok (.bipush (-2), 2) := by decide +kernel
theorem dX11_undo_12 : decode cX11_undo 12 = .ok (.ireturn, 1) := by decide +kernel
theorem dX11_undo_13 : decode cX11_undo 13 = .ok (.aload_n 0, 1) := by decide +kernel
theorem dX11_undo_14 : decode cX11_undo 14 = .ok (.getfield 19, 3) := by decide +kernel
theorem dX11_undo_17 : decode cX11_undo 17 = .ok (.getfield 355, 3) := by decide +kernel
theorem dX11_undo_20 : decode cX11_undo 20 = .ok (.getfield 359, 3) := by decide +kernel
theorem dX11_undo_23 : decode cX11_undo 23 = .ok (.iconst 1, 1) := by decide +kernel
theorem dX11_undo_24 : decode cX11_undo 24 = .ok (.if_icmp .ge 6, 3) := by decide +kernel
theorem dX11_undo_27 : decode cX11_undo 27 = .ok (.bipush (-5), 2) := by decide +kernel
theorem dX11_undo_29 : decode cX11_undo 29 = .ok (.ireturn, 1) := by decide +kernel
theorem dX11_undo_30 : decode cX11_undo 30 = .ok (.aload_n 0, 1) := by decide +kernel
theorem dX11_undo_31 : decode cX11_undo 31 = .ok (.getfield 19, 3) := by decide +kernel
theorem dX11_undo_34 : decode cX11_undo 34 = .ok (.getfield 355, 3) := by decide +kernel
theorem dX11_undo_37 : decode cX11_undo 37 = .ok (.dup, 1) := by decide +kernel
theorem dX11_undo_38 : decode cX11_undo 38 = .ok (.getfield 359, 3) := by decide +kernel
theorem dX11_undo_41 : decode cX11_undo 41 = .ok (.iconst 1, 1) := by decide +kernel
theorem dX11_undo_42 : decode cX11_undo 42 = .ok (.isub, 1) := by decide +kernel
theorem dX11_undo_43 : decode cX11_undo 43 = .ok (.putfield 359, 3) := by decide +kernel
theorem dX11_undo_46 : decode cX11_undo 46 = .ok (.aload_n 0, 1) := by decide +kernel
theorem dX11_undo_47 : decode cX11_undo 47 = .ok (.getfield 19, 3) := by decide +kernel
theorem dX11_undo_50 : decode cX11_undo 50 = .ok (.getfield 355, 3) := by decide +kernel
theorem dX11_undo_53 : decode cX11_undo 53 = .ok (.getfield 359, 3) := by decide +kernel
theorem dX11_undo_56 : decode cX11_undo 56 = .ok (.istore_n 1, 1) := by decide +kernel
theorem dX11_undo_57 : decode cX11_undo 57 = .ok (.aload_n 0, 1) := by decide +kernel
theorem dX11_undo_58 : decode cX11_undo 58 = .ok (.getfield 19, 3) := by decide +kernel
theorem dX11_undo_61 : decode cX11_undo 61 = .ok (.aload_n 0, 1) := by decide +kernel
theorem dX11_undo_62 : decode cX11_undo 62 = .ok (.getfield 19, 3) := by decide +kernel
theorem dX11_undo_65 : decode cX11_undo 65 = .ok (.getfield 355, 3) := by decide +kernel
theorem dX11_undo_68 : decode cX11_undo 68 = .ok (.getfield 360, 3) := by decide +kernel
theorem dX11_undo_71 : decode cX11_undo 71 = .ok (.iload_n 1, 1) := by decide +kernel
theorem dX11_undo_72 : decode cX11_undo 72 = .ok (.iaload, 1) := by decide +kernel
theorem dX11_undo_73 : decode cX11_undo 73 = .ok (.aload_n 0, 1) := by decide +kernel
theorem dX11_undo_74 : decode cX11_undo 74 = .ok (.getfield 19, 3) := by decide +kernel
theorem dX11_undo_77 : decode cX11_undo 77 = .ok (.getfield 355, 3) := by decide +kernel
theorem dX11_undo_80 : decode cX11_undo 80 = .ok (.getfield 363, 3) := by decide +kernel
theorem dX11_undo_83 : decode cX11_undo 83 = .ok (.iload_n 1, 1) := by decide +kernel
theorem dX11_undo_84 : decode cX11_undo 84 = .ok (.iaload, 1) := by decide +kernel
theorem dX11_undo_85 : decode cX11_undo 85 = .ok (.aload_n 0, 1) := by decide +kernel
theorem dX11_undo_86 : decode cX11_undo 86 = .ok (.getfield 19, 3) := by decide +kernel
theorem dX11_undo_89 : decode cX11_undo 89 = .ok (.getfield 355, 3) := by decide +kernel
theorem dX11_undo_92 : decode cX11_undo 92 = .ok (.getfield 366, 3) := by decide +kernel
theorem dX11_undo_95 : decode cX11_undo 95 = .ok (.iload_n 1, 1) := by decide +kernel
theorem dX11_undo_96 : decode cX11_undo 96 = .ok (.iaload, 1) := by decide +kernel
theorem dX11_undo_97 : decode cX11_undo 97 = .ok (.invokevirtual 369, 3) := by decide +kernel
theorem dX11_undo_100 : decode cX11_undo 100 = .ok (.aload_n 0, 1) := by decide +kernel
theorem dX11_undo_101 : decode cX11_undo 101 = .ok (.getfield 19, 3) := by decide +kernel
theorem dX11_undo_104 : decode cX11_undo 104 = .ok (.getfield 355, 3) := by decide +kernel
theorem dX11_undo_107 : decode cX11_undo 107 = .ok (.getfield 359, 3) := by decide +kernel
theorem dX11_undo_110 : decode cX11_undo 110 = .ok (.ireturn, 1) := by decide +kernel
theorem dX11_worsen_0 : decode cX11_worsen 0 = .ok (.aload_n 0, 1) := by decide +kernel
theorem dX11_worsen_1 : decode cX11_worsen 1 = .ok (.getfield 19, 3) := by decide +kernel
theorem dX11_worsen_4 : decode cX11_worsen 4 = .ok (.iload_n 1, 1) := by decide +kernel
theorem dX11_worsen_5 : decode cX11_worsen 5 = .ok (.invokevirtual 114, 3) := by decide +kernel
theorem dX11_worsen_8 : decode cX11_worsen 8 = .ok (.ifCond .eq 13, 3) := by decide +kernel
theorem dX11_worsen_11 : decode cX11_worsen 11 = .ok (.iload_n 2, 1) := by decide +kernel
theorem dX11_worsen_12 : decode cX11_worsen 12 = .ok (.ifCond .lt 9, 3) := by decide +kernel
theorem dX11_worsen_15 : decode cX11_worsen 15 = .ok (.iload_n 2, 1) := by decide +kernel
theorem dX11_worsen_16 : decode cX11_worsen 16 = .ok (.bipush 99, 2) := by decide +kernel
theorem dX11_worsen_18 : decode cX11_worsen 18 = .ok (.if_icmp .le 6, 3) := by decide +kernel
theorem dX11_worsen_21 : decode cX11_worsen 21 = .ok (.bipush (-2), 2) := by decide +kernel
theorem dX11_worsen_23 : decode cX11_worsen 23 = .ok (.ireturn, 1) := by decide +kernel
theorem dX11_worsen_24 : decode cX11_worsen 24 = .ok (.aload_n 0, 1) := by decide +kernel
theorem dX11_worsen_25 : decode cX11_worsen 25 = .ok (.iconst 0, 1) := by decide +kernel
theorem dX11_worsen_26 : decode cX11_worsen 26 = .ok (.iload_n 1, 1) := by decide +kernel
theorem dX11_worsen_27 : decode cX11_worsen 27 = .ok (.iload_n 2, 1) := by decide +kernel
theorem dX11_worsen_28 : decode cX11_worsen 28 = .ok (.invokevirtual 352, 3) := by decide +kernel
theorem dX11_worsen_31 : decode cX11_worsen 31 = .ok (.ireturn, 1) := by decide +kernel
