theorem b_1002 : Cond.methodLink RX12 380 yX12_soonOn ∈ BIG := bi (tin_8 _ (List.mem_of_getElem? (i := 189) rfl)) rfl
theorem b_1003 : Cond.code yX12_soonOn cX12_soonOn 6 (some .int) ∈ BIG := bi (tin_8 _ (List.mem_of_getElem? (i := 192) rfl)) rfl
theorem b_1004 : Cond.instanceMethod yX12_soonOn ∈ BIG := bi (tin_8 _ (List.mem_of_getElem? (i := 191) rfl)) rfl
theorem b_1005 : Cond.selects RX12 yX12_soonOn yX12_soonOn ∈ BIG := bi (sin_10 _ (List.mem_map.mpr ⟨(yX12_soonOn, 29), List.mem_of_getElem? (i := 14) rfl, rfl⟩)) rfl
theorem m_yX12_soonOn : MV yX12_soonOn cX12_soonOn 6 (some .int) 2 := ⟨b_1003, b_1004, b_1005, b_810, by decide +kernel⟩
theorem dX12_enough_0 : decode cX12_enough 0 = .ok (.aload_n 0, 1) := by decide +kernel
theorem dX12_enough_1 : decode cX12_enough 1 = .ok (.iload_n 1, 1) := by decide +kernel
theorem dX12_enough_2 : decode cX12_enough 2 = .ok (.invokevirtual 258, 3) := by decide +kernel
theorem dX12_enough_5 : decode cX12_enough 5 = .ok (.ifCond .ne 6, 3) := by decide +kernel
theorem dX12_enough_8 : decode cX12_enough 8 = .ok (.bipush (-2), 2) := by decide +kernel
theorem dX12_enough_10 : decode cX12_enough 10 = .ok (.ireturn, 1) := by decide +kernel
theorem dX12_enough_11 : decode cX12_enough 11 = .ok (.aload_n 0, 1) := by decide +kernel
theorem dX12_enough_12 : decode cX12_enough 12 = .ok (.iconst 0, 1) := by decide +kernel
theorem dX12_enough_13 : decode cX12_enough 13 = .ok (.iload_n 1, 1) := by decide +kernel
theorem dX12_enough_14 : decode cX12_enough 14 = .ok (.invokevirtual 342, 3) := by decide +kernel
theorem dX12_enough_17 : decode cX12_enough 17 = .ok (.istore_n 2, 1) := by decide +kernel
theorem dX12_enough_18 : decode cX12_enough 18 = .ok (.iconst 1, 1) := by decide +kernel
theorem dX12_enough_19 : decode cX12_enough 19 = .ok (.istore_n 3, 1) := by decide +kernel
theorem dX12_enough_20 : decode cX12_enough 20 = .ok (.iload_n 3, 1) := by decide +kernel
theorem dX12_enough_21 : decode cX12_enough 21 = .ok (.aload_n 0, 1) := by decide +kernel
theorem dX12_enough_22 : decode cX12_enough 22 = .ok (.getfield 9, 3) := by decide +kernel
theorem dX12_enough_25 : decode cX12_enough 25 = .ok (.iconst 2, 1) := by decide +kernel
theorem dX12_enough_26 : decode cX12_enough 26 = .ok (.iaload, 1) := by decide +kernel
theorem dX12_enough_27 : decode cX12_enough 27 = .ok (.if_icmp .gt 36, 3) := by decide +kernel
theorem dX12_enough_30 : decode cX12_enough 30 = .ok (.iload_n 2, 1) := by decide +kernel
theorem dX12_enough_31 : decode cX12_enough 31 = .ok (.iconst (-1), 1) := by decide +kernel
theorem dX12_enough_32 : decode cX12_enough 32 = .ok (.if_icmp .eq 31, 3) := by decide +kernel
theorem dX12_enough_35 : decode cX12_enough 35 = .ok (.aload_n 0, 1) := by decide +kernel
theorem dX12_enough_36 : decode cX12_enough 36 = .ok (.iconst 0, 1) := by decide +kernel
theorem dX12_enough_37 : decode cX12_enough 37 = .ok (.iload_n 1, 1) := by decide +kernel
theorem dX12_enough_38 : decode cX12_enough 38 = .ok (.iload_n 3, 1) := by decide +kernel
theorem dX12_enough_39 : decode cX12_enough 39 = .ok (.invokevirtual 338, 3) := by decide +kernel
theorem dX12_enough_42 : decode cX12_enough 42 = .ok (.aload_n 0, 1) := by decide +kernel
theorem dX12_enough_43 : decode cX12_enough 43 = .ok (.getfield 34, 3) := by decide +kernel
theorem dX12_enough_46 : decode cX12_enough 46 = .ok (.aload_n 0, 1) := by decide +kernel
theorem dX12_enough_47 : decode cX12_enough 47 = .ok (.invokevirtual 81, 3) := by decide +kernel
theorem dX12_enough_50 : decode cX12_enough 50 = .ok (.iaload, 1) := by decide +kernel
theorem dX12_enough_51 : decode cX12_enough 51 = .ok (.iload_n 2, 1) := by decide +kernel
theorem dX12_enough_52 : decode cX12_enough 52 = .ok (.if_icmp .ne 5, 3) := by decide +kernel
theorem dX12_enough_55 : decode cX12_enough 55 = .ok (.iload_n 3, 1) := by decide +kernel
theorem dX12_enough_56 : decode cX12_enough 56 = .ok (.ireturn, 1) := by decide +kernel
theorem dX12_enough_57 : decode cX12_enough 57 = .ok (.iinc 3 1, 3) := by decide +kernel
theorem dX12_enough_60 : decode cX12_enough 60 = .ok (.goto (-40), 3) := by decide +kernel
theorem dX12_enough_63 : decode cX12_enough 63 = .ok (.iconst (-1), 1) := by decide +kernel
theorem dX12_enough_64 : decode cX12_enough 64 = .ok (.ireturn, 1) := by decide +kernel
theorem dX12_evenOf_0 : decode cX12_evenOf 0 = .ok (.iload_n 0, 1) := by decide +kernel
theorem dX12_evenOf_1 : decode cX12_evenOf 1 = .ok (.iload_n 1, 1) := by decide +kernel
theorem dX12_evenOf_2 : decode cX12_evenOf 2 = .ok (.idiv, 1) := by decide +kernel
theorem dX12_evenOf_3 : decode cX12_evenOf 3 = .ok (.istore_n 2, 1) := by decide +kernel
theorem dX12_evenOf_4 : decode cX12_evenOf 4 = .ok (.iload_n 0, 1) := by decide +kernel
theorem dX12_evenOf_5 : decode cX12_evenOf 5 = .ok (.iload_n 1, 1) := by decide +kernel
theorem dX12_evenOf_6 : decode cX12_evenOf 6 = .ok (.irem, 1) := by decide +kernel
theorem dX12_evenOf_7 : decode cX12_evenOf 7 = .ok (.istore_n 3, 1) := by decide +kernel
theorem dX12_evenOf_8 : decode cX12_evenOf 8 = .ok (.iload_n 3, 1) := by decide +kernel
theorem dX12_evenOf_9 : decode cX12_evenOf 9 = .ok (.iload_n 2, 1) := by decide +kernel
theorem dX12_evenOf_10 : decode cX12_evenOf 10 = .ok (.iconst 1, 1) := by decide +kernel
theorem dX12_evenOf_11 : decode cX12_evenOf 11 = .ok (.iadd, 1) := by decide +kernel
theorem dX12_evenOf_12 : decode cX12_evenOf 12 = .ok (.imul, 1) := by decide +kernel
theorem dX12_evenOf_13 : decode cX12_evenOf 13 = .ok (.iload_n 2, 1) := by decide +kernel
theorem dX12_evenOf_14 : decode cX12_evenOf 14 = .ok (.iconst 1, 1) := by decide +kernel
theorem dX12_evenOf_15 : decode cX12_evenOf 15 = .ok (.iadd, 1) := by decide +kernel
theorem dX12_evenOf_16 : decode cX12_evenOf 16 = .ok (.imul, 1) := by decide +kernel
theorem dX12_evenOf_17 : decode cX12_evenOf 17 = .ok (.iload_n 1, 1) := by decide +kernel
theorem dX12_evenOf_18 : decode cX12_evenOf 18 = .ok (.iload_n 3, 1) := by decide +kernel
theorem dX12_evenOf_19 : decode cX12_evenOf 19 = .ok (.isub, 1) := by decide +kernel
theorem dX12_evenOf_20 : decode cX12_evenOf 20 = .ok (.iload_n 2, 1) := by decide +kernel
theorem dX12_evenOf_21 : decode cX12_evenOf 21 = .ok (.imul, 1) := by decide +kernel
theorem dX12_evenOf_22 : decode cX12_evenOf 22 = .ok (.iload_n 2, 1) := by decide +kernel
theorem dX12_evenOf_23 : decode cX12_evenOf 23 = .ok (.imul, 1) := by decide +kernel
theorem dX12_evenOf_24 : decode cX12_evenOf 24 = .ok (.iadd, 1) := by decide +kernel
theorem dX12_evenOf_25 : decode cX12_evenOf 25 = .ok (.ireturn, 1) := by decide +kernel
theorem dX12_idle_0 : decode cX12_idle 0 = .ok (.aload_n 0, 1) := by decide +kernel
theorem dX12_idle_1 : decode cX12_idle 1 = .ok (.invokevirtual 77, 3) := by decide +kernel
theorem dX12_idle_4 : decode cX12_idle 4 = .ok (.ifCond .ne 6, 3) := by decide +kernel
theorem dX12_idle_7 : decode cX12_idle 7 = .ok (.bipush (-2), 2) := by decide +kernel
theorem dX12_idle_9 : decode cX12_idle 9 = .ok (.ireturn, 1) := by decide +kernel
theorem dX12_idle_10 : decode cX12_idle 10 = .ok (.iconst 1, 1) := by decide +kernel
theorem dX12_idle_11 : decode cX12_idle 11 = .ok (.aload_n 0, 1) := by decide +kernel
theorem dX12_idle_12 : decode cX12_idle 12 = .ok (.getfield 9, 3) := by decide +kernel
theorem dX12_idle_15 : decode cX12_idle 15 = .ok (.bipush 6, 2) := by decide +kernel
theorem dX12_idle_17 : decode cX12_idle 17 = .ok (.iaload, 1) := by decide +kernel
theorem dX12_idle_18 : decode cX12_idle 18 = .ok (.ishl, 1) := by decide +kernel
theorem dX12_idle_19 : decode cX12_idle 19 = .ok (.iconst 1, 1) := by decide +kernel
theorem dX12_idle_20 : decode cX12_idle 20 = .ok (.isub, 1) := by decide +kernel
theorem dX12_idle_21 : decode cX12_idle 21 = .ok (.istore_n 1, 1) := by decide +kernel
theorem dX12_idle_22 : decode cX12_idle 22 = .ok (.iconst 0, 1) := by decide +kernel
theorem dX12_idle_23 : decode cX12_idle 23 = .ok (.istore_n 2, 1) := by decide +kernel
theorem dX12_idle_24 : decode cX12_idle 24 = .ok (.iload_n 2, 1) := by decide +kernel
theorem dX12_idle_25 : decode cX12_idle 25 = .ok (.aload_n 0, 1) := by decide +kernel
theorem dX12_idle_26 : decode cX12_idle 26 = .ok (.getfield 9, 3) := by decide +kernel
theorem dX12_idle_29 : decode cX12_idle 29 = .ok (.iconst 5, 1) := by decide +kernel
theorem dX12_idle_30 : decode cX12_idle 30 = .ok (.iaload, 1) := by decide +kernel
theorem dX12_idle_31 : decode cX12_idle 31 = .ok (.if_icmp .ge 62, 3) := by decide +kernel
theorem dX12_idle_34 : decode cX12_idle 34 = .ok (.iconst 0, 1) := by decide +kernel
theorem dX12_idle_35 : decode cX12_idle 35 = .ok (.istore_n 3, 1) := by decide +kernel
theorem dX12_idle_36 : decode cX12_idle 36 = .ok (.iload_n 3, 1) := by decide +kernel
theorem dX12_idle_37 : decode cX12_idle 37 = .ok (.aload_n 0, 1) := by decide +kernel
theorem dX12_idle_38 : decode cX12_idle 38 = .ok (.getfield 9, 3) := by decide +kernel
theorem dX12_idle_41 : decode cX12_idle 41 = .ok (.iconst 2, 1) := by decide +kernel
theorem dX12_idle_42 : decode cX12_idle 42 = .ok (.iaload, 1) := by decide +kernel
theorem dX12_idle_43 : decode cX12_idle 43 = .ok (.if_icmp .ge 44, 3) := by decide +kernel
theorem dX12_idle_46 : decode cX12_idle 46 = .ok (.aload_n 0, 1) := by decide +kernel
theorem dX12_idle_47 : decode cX12_idle 47 = .ok (.iconst 0, 1) := by decide +kernel
theorem dX12_idle_48 : decode cX12_idle 48 = .ok (.iload_n 2, 1) := by decide +kernel
theorem dX12_idle_49 : decode cX12_idle 49 = .ok (.iload_n 3, 1) := by decide +kernel
theorem dX12_idle_50 : decode cX12_idle 50 = .ok (.invokevirtual 351, 3) := by decide +kernel
theorem dX12_idle_53 : decode cX12_idle 53 = .ok (.istore 4, 2) := by decide +kernel
theorem dX12_idle_55 : decode cX12_idle 55 = .ok (.iload_n 1, 1) := by decide +kernel
theorem dX12_idle_56 : decode cX12_idle 56 = .ok (.iload 4, 2) := by decide +kernel
theorem dX12_idle_58 : decode cX12_idle 58 = .ok (.iconst (-1), 1) := by decide +kernel
theorem dX12_idle_59 : decode cX12_idle 59 = .ok (.if_icmp .eq 10, 3) := by decide +kernel
theorem dX12_idle_62 : decode cX12_idle 62 = .ok (.iload 4, 2) := by decide +kernel
theorem dX12_idle_64 : decode cX12_idle 64 = .ok (.bipush 8, 2) := by decide +kernel
theorem dX12_idle_66 : decode cX12_idle 66 = .ok (.if_icmp .ne 7, 3) := by decide +kernel
theorem dX12_idle_69 : decode cX12_idle 69 = .ok (.iload_n 1, 1) := by decide +kernel
theorem dX12_idle_70 : decode cX12_idle 70 = .ok (.goto 9, 3) := by decide +kernel
theorem dX12_idle_73 : decode cX12_idle 73 = .ok (.iconst 1, 1) := by decide +kernel
theorem dX12_idle_74 : decode cX12_idle 74 = .ok (.iload 4, 2) := by decide +kernel
theorem dX12_idle_76 : decode cX12_idle 76 = .ok (.ishl, 1) := by decide +kernel
theorem dX12_idle_77 : decode cX12_idle 77 = .ok (.iconst (-1), 1) := by decide +kernel
theorem dX12_idle_78 : decode cX12_idle 78 = .ok (.ixor, 1) := by decide +kernel
theorem dX12_idle_79 : decode cX12_idle 79 = .ok (.iand, 1) := by decide +kernel
theorem dX12_idle_80 : decode cX12_idle 80 = .ok (.istore_n 1, 1) := by decide +kernel
theorem dX12_idle_81 : decode cX12_idle 81 = .ok (.iinc 3 1, 3) := by decide +kernel
theorem dX12_idle_84 : decode cX12_idle 84 = .ok (.goto (-48), 3) := by decide +kernel
theorem dX12_idle_87 : decode cX12_idle 87 = .ok (.iinc 2 1, 3) := by decide +kernel
theorem dX12_idle_90 : decode cX12_idle 90 = .ok (.goto (-66), 3) := by decide +kernel
theorem dX12_idle_93 : decode cX12_idle 93 = .ok (.iload_n 1, 1) := by decide +kernel
theorem dX12_idle_94 : decode cX12_idle 94 = .ok (.ireturn, 1) := by decide +kernel
theorem dX12_now_0 : decode cX12_now 0 = .ok (.aload_n 0, 1) := by decide +kernel
theorem dX12_now_1 : decode cX12_now 1 = .ok (.iload_n 1, 1) := by decide +kernel
theorem dX12_now_2 : decode cX12_now 2 = .ok (.invokevirtual 258, 3) := by decide +kernel
theorem dX12_now_5 : decode cX12_now 5 = .ok (.ifCond .eq 19, 3) := by decide +kernel
theorem dX12_now_8 : decode cX12_now 8 = .ok (.aload_n 0, 1) := by decide +kernel
theorem dX12_now_9 : decode cX12_now 9 = .ok (.iload_n 2, 1) := by decide +kernel
theorem dX12_now_10 : decode cX12_now 10 = .ok (.invokevirtual 348, 3) := by decide +kernel
theorem dX12_now_13 : decode cX12_now 13 = .ok (.ifCond .eq 11, 3) := by decide +kernel
theorem dX12_now_16 : decode cX12_now 16 = .ok (.aload_n 0, 1) := by decide +kernel
theorem dX12_now_17 : decode cX12_now 17 = .ok (.iload_n 3, 1) := by decide +kernel
theorem dX12_now_18 : decode cX12_now 18 = .ok (.invokevirtual 273, 3) := by decide +kernel
theorem dX12_now_21 : decode cX12_now 21 = .ok (.ifCond .ne 6, 3) := by decide +kernel
theorem dX12_now_24 : decode cX12_now 24 = .ok (.bipush (-2), 2) := by decide +kernel
theorem dX12_now_26 : decode cX12_now 26 = .ok (.ireturn, 1) := by decide +kernel
theorem dX12_now_27 : decode cX12_now 27 = .ok (.aload_n 0, 1) := by decide +kernel
theorem dX12_now_28 : decode cX12_now 28 = .ok (.iconst 4, 1) := by decide +kernel
theorem dX12_now_29 : decode cX12_now 29 = .ok (.iload_n 1, 1) := by decide +kernel
theorem dX12_now_30 : decode cX12_now 30 = .ok (.aload_n 0, 1) := by decide +kernel
theorem dX12_now_31 : decode cX12_now 31 = .ok (.getfield 9, 3) := by decide +kernel
theorem dX12_now_34 : decode cX12_now 34 = .ok (.iconst 2, 1) := by decide +kernel
theorem dX12_now_35 : decode cX12_now 35 = .ok (.iaload, 1) := by decide +kernel
theorem dX12_now_36 : decode cX12_now 36 = .ok (.invokevirtual 338, 3) := by decide +kernel
theorem dX12_now_39 : decode cX12_now 39 = .ok (.aload_n 0, 1) := by decide +kernel
theorem dX12_now_40 : decode cX12_now 40 = .ok (.iload_n 2, 1) := by decide +kernel
theorem dX12_now_41 : decode cX12_now 41 = .ok (.iload_n 3, 1) := by decide +kernel
theorem dX12_now_42 : decode cX12_now 42 = .ok (.invokevirtual 332, 3) := by decide +kernel
theorem dX12_now_45 : decode cX12_now 45 = .ok (.ireturn, 1) := by decide +kernel
theorem dX12_rest_0 : decode cX12_rest 0 = .ok (.aload_n 0, 1) := by decide +kernel
theorem dX12_rest_1 : decode cX12_rest 1 = .ok (.iload_n 1, 1) := by decide +kernel
theorem dX12_rest_2 : decode cX12_rest 2 = .ok (.invokevirtual 258, 3) := by decide +kernel
theorem dX12_rest_5 : decode cX12_rest 5 = .ok (.ifCond .ne 6, 3) := by decide +kernel
theorem dX12_rest_8 : decode cX12_rest 8 = .ok (.bipush (-2), 2) := by decide +kernel
theorem dX12_rest_10 : decode cX12_rest 10 = .ok (.ireturn, 1) := by decide +kernel
theorem dX12_rest_11 : decode cX12_rest 11 = .ok (.aload_n 0, 1) := by decide +kernel
theorem dX12_rest_12 : decode cX12_rest 12 = .ok (.iconst 0, 1) := by decide +kernel
theorem dX12_rest_13 : decode cX12_rest 13 = .ok (.iload_n 1, 1) := by decide +kernel
theorem dX12_rest_14 : decode cX12_rest 14 = .ok (.invokevirtual 342, 3) := by decide +kernel
theorem dX12_rest_17 : decode cX12_rest 17 = .ok (.iconst (-1), 1) := by decide +kernel
theorem dX12_rest_18 : decode cX12_rest 18 = .ok (.if_icmp .ne 5, 3) := by decide +kernel
theorem dX12_rest_21 : decode cX12_rest 21 = .ok (.iconst (-1), 1) := by decide +kernel
theorem dX12_rest_22 : decode cX12_rest 22 = .ok (.ireturn, 1) := by decide +kernel
theorem dX12_rest_23 : decode cX12_rest 23 = .ok (.iconst 0, 1) := by decide +kernel
theorem dX12_rest_24 : decode cX12_rest 24 = .ok (.istore_n 2, 1) := by decide +kernel
theorem dX12_rest_25 : decode cX12_rest 25 = .ok (.iconst 0, 1) := by decide +kernel
theorem dX12_rest_26 : decode cX12_rest 26 = .ok (.istore_n 3, 1) := by decide +kernel
theorem dX12_rest_27 : decode cX12_rest 27 = .ok (.aload_n 0, 1) := by decide +kernel
theorem dX12_rest_28 : decode cX12_rest 28 = .ok (.invokevirtual 81, 3) := by decide +kernel
theorem dX12_rest_31 : decode cX12_rest 31 = .ok (.istore 4, 2) := by decide +kernel
theorem dX12_rest_33 : decode cX12_rest 33 = .ok (.iconst 0, 1) := by decide +kernel
theorem dX12_rest_34 : decode cX12_rest 34 = .ok (.istore 5, 2) := by decide +kernel
theorem dX12_rest_36 : decode cX12_rest 36 = .ok (.iload 5, 2) := by decide +kernel
theorem dX12_rest_38 : decode cX12_rest 38 = .ok (.aload_n 0, 1) := by decide +kernel
theorem dX12_rest_39 : decode cX12_rest 39 = .ok (.getfield 9, 3) := by decide +kernel
theorem dX12_rest_42 : decode cX12_rest 42 = .ok (.iconst 2, 1) := by decide +kernel
theorem dX12_rest_43 : decode cX12_rest 43 = .ok (.iaload, 1) := by decide +kernel
theorem dX12_rest_44 : decode cX12_rest 44 = .ok (.if_icmp .ge 50, 3) := by decide +kernel
theorem dX12_rest_47 : decode cX12_rest 47 = .ok (.aload_n 0, 1) := by decide +kernel
theorem dX12_rest_48 : decode cX12_rest 48 = .ok (.iload 5, 2) := by decide +kernel
theorem dX12_rest_50 : decode cX12_rest 50 = .ok (.iload 4, 2) := by decide +kernel
theorem dX12_rest_52 : decode cX12_rest 52 = .ok (.invokevirtual 332, 3) := by decide +kernel
theorem dX12_rest_55 : decode cX12_rest 55 = .ok (.istore 6, 2) := by decide +kernel
theorem dX12_rest_57 : decode cX12_rest 57 = .ok (.iload 6, 2) := by decide +kernel
theorem dX12_rest_59 : decode cX12_rest 59 = .ok (.bipush 8, 2) := by decide +kernel
theorem dX12_rest_61 : decode cX12_rest 61 = .ok (.if_icmp .ne 9, 3) := by decide +kernel
theorem dX12_rest_64 : decode cX12_rest 64 = .ok (.iload_n 3, 1) := by decide +kernel
theorem dX12_rest_65 : decode cX12_rest 65 = .ok (.iconst 1, 1) := by decide +kernel
theorem dX12_rest_66 : decode cX12_rest 66 = .ok (.iadd, 1) := by decide +kernel
theorem dX12_rest_67 : decode cX12_rest 67 = .ok (.goto 4, 3) := by decide +kernel
theorem dX12_rest_70 : decode cX12_rest 70 = .ok (.iconst 0, 1) := by decide +kernel
theorem dX12_rest_71 : decode cX12_rest 71 = .ok (.istore_n 3, 1) := by decide +kernel
theorem dX12_rest_72 : decode cX12_rest 72 = .ok (.iload_n 2, 1) := by decide +kernel
theorem dX12_rest_73 : decode cX12_rest 73 = .ok (.iload_n 3, 1) := by decide +kernel
theorem dX12_rest_74 : decode cX12_rest 74 = .ok (.invokestatic 250, 3) := by decide +kernel
theorem dX12_rest_77 : decode cX12_rest 77 = .ok (.istore_n 2, 1) := by decide +kernel
theorem dX12_rest_78 : decode cX12_rest 78 = .ok (.aload_n 0, 1) := by decide +kernel
theorem dX12_rest_79 : decode cX12_rest 79 = .ok (.iload 4, 2) := by decide +kernel
theorem dX12_rest_81 : decode cX12_rest 81 = .ok (.iload 6, 2) := by decide +kernel
theorem dX12_rest_83 : decode cX12_rest 83 = .ok (.invokevirtual 243, 3) := by decide +kernel
theorem dX12_rest_86 : decode cX12_rest 86 = .ok (.istore 4, 2) := by decide +kernel
theorem dX12_rest_88 : decode cX12_rest 88 = .ok (.iinc 5 1, 3) := by decide +kernel
theorem dX12_rest_91 : decode cX12_rest 91 = .ok (.goto (-55), 3) := by decide +kernel
theorem dX12_rest_94 : decode cX12_rest 94 = .ok (.iload_n 2, 1) := by decide +kernel
theorem dX12_rest_95 : decode cX12_rest 95 = .ok (.ireturn, 1) := by decide +kernel
theorem dX12_soon_0 : decode cX12_soon 0 = .ok (.aload_n 0, 1) := by decide +kernel
theorem dX12_soon_1 : decode cX12_soon 1 = .ok (.iload_n 1, 1) := by decide +kernel
theorem dX12_soon_2 : decode cX12_soon 2 = .ok (.invokevirtual 258, 3) := by decide +kernel
theorem dX12_soon_5 : decode cX12_soon 5 = .ok (.ifCond .eq 13, 3) := by decide +kernel
theorem dX12_soon_8 : decode cX12_soon 8 = .ok (.iload_n 2, 1) := by decide +kernel
theorem dX12_soon_9 : decode cX12_soon 9 = .ok (.i2l, 1) := by decide +kernel
theorem dX12_soon_10 : decode cX12_soon 10 = .ok (.lconst 0, 1) := by decide +kernel
theorem dX12_soon_11 : decode cX12_soon 11 = .ok (.lconst 1, 1) := by decide +kernel
theorem dX12_soon_12 : decode cX12_soon 12 = .ok (.invokestatic 67, 3) := by decide +kernel
theorem dX12_soon_15 : decode cX12_soon 15 = .ok (.ifCond .ne 6, 3) := by decide +kernel
theorem dX12_soon_18 : decode cX12_soon 18 = .ok (.bipush (-2), 2) := by decide +kernel
theorem dX12_soon_20 : decode cX12_soon 20 = .ok (.ireturn, 1) := by decide +kernel
theorem dX12_soon_21 : decode cX12_soon 21 = .ok (.iconst 0, 1) := by decide +kernel
theorem dX12_soon_22 : decode cX12_soon 22 = .ok (.istore_n 3, 1) := by decide +kernel
theorem dX12_soon_23 : decode cX12_soon 23 = .ok (.iconst 1, 1) := by decide +kernel
theorem dX12_soon_24 : decode cX12_soon 24 = .ok (.istore 4, 2) := by decide +kernel
theorem dX12_soon_26 : decode cX12_soon 26 = .ok (.iload 4, 2) := by decide +kernel
theorem dX12_soon_28 : decode cX12_soon 28 = .ok (.aload_n 0, 1) := by decide +kernel
theorem dX12_soon_29 : decode cX12_soon 29 = .ok (.getfield 9, 3) := by decide +kernel
theorem dX12_soon_32 : decode cX12_soon 32 = .ok (.iconst 2, 1) := by decide +kernel
theorem dX12_soon_33 : decode cX12_soon 33 = .ok (.iaload, 1) := by decide +kernel
theorem dX12_soon_34 : decode cX12_soon 34 = .ok (.if_icmp .ge 32, 3) := by decide +kernel
theorem dX12_soon_37 : decode cX12_soon 37 = .ok (.aload_n 0, 1) := by decide +kernel
theorem dX12_soon_38 : decode cX12_soon 38 = .ok (.iload_n 1, 1) := by decide +kernel
theorem dX12_soon_39 : decode cX12_soon 39 = .ok (.iload 4, 2) := by decide +kernel
theorem dX12_soon_41 : decode cX12_soon 41 = .ok (.invokevirtual 380, 3) := by decide +kernel
theorem dX12_soon_44 : decode cX12_soon 44 = .ok (.aload_n 0, 1) := by decide +kernel
theorem dX12_soon_45 : decode cX12_soon 45 = .ok (.iload_n 1, 1) := by decide +kernel
theorem dX12_soon_46 : decode cX12_soon 46 = .ok (.iload_n 3, 1) := by decide +kernel
theorem dX12_soon_47 : decode cX12_soon 47 = .ok (.invokevirtual 380, 3) := by decide +kernel
theorem dX12_soon_50 : decode cX12_soon 50 = .ok (.if_icmp .ge 8, 3) := by decide +kernel
theorem dX12_soon_53 : decode cX12_soon 53 = .ok (.iload 4, 2) := by decide +kernel
theorem dX12_soon_55 : decode cX12_soon 55 = .ok (.goto 4, 3) := by decide +kernel
theorem dX12_soon_58 : decode cX12_soon 58 = .ok (.iload_n 3, 1) := by decide +kernel
theorem dX12_soon_59 : decode cX12_soon 59 = .ok (.istore_n 3, 1) := by decide +kernel
theorem dX12_soon_60 : decode cX12_soon 60 = .ok (.iinc 4 1, 3) := by decide +kernel
theorem dX12_soon_63 : decode cX12_soon 63 = .ok (.goto (-37), 3) := by decide +kernel
theorem dX12_soon_66 : decode cX12_soon 66 = .ok (.iload_n 2, 1) := by decide +kernel
theorem dX12_soon_67 : decode cX12_soon 67 = .ok (.ifCond .ne 7, 3) := by decide +kernel
theorem dX12_soon_70 : decode cX12_soon 70 = .ok (.iload_n 3, 1) := by decide +kernel
theorem dX12_soon_71 : decode cX12_soon 71 = .ok (.goto 9, 3) := by decide +kernel
theorem dX12_soon_74 : decode cX12_soon 74 = .ok (.aload_n 0, 1) := by decide +kernel
theorem dX12_soon_75 : decode cX12_soon 75 = .ok (.iload_n 1, 1) := by decide +kernel
theorem dX12_soon_76 : decode cX12_soon 76 = .ok (.iload_n 3, 1) := by decide +kernel
theorem dX12_soon_77 : decode cX12_soon 77 = .ok (.invokevirtual 380, 3) := by decide +kernel
theorem dX12_soon_80 : decode cX12_soon 80 = .ok (.ireturn, 1) := by decide +kernel
theorem dX12_soonOn_0 : decode cX12_soonOn 0 = .ok (.aload_n 0, 1) := by decide +kernel
theorem dX12_soonOn_1 : decode cX12_soonOn 1 = .ok (.iload_n 1, 1) := by decide +kernel
theorem dX12_soonOn_2 : decode cX12_soonOn 2 = .ok (.aload_n 0, 1) := by decide +kernel
theorem dX12_soonOn_3 : decode cX12_soonOn 3 = .ok (.invokevirtual 81, 3) := by decide +kernel
theorem dX12_soonOn_6 : decode cX12_soonOn 6 = .ok (.aload_n 0, 1) := by decide +kernel
theorem dX12_soonOn_7 : decode cX12_soonOn 7 = .ok (.invokevirtual 315, 3) := by decide +kernel
theorem dX12_soonOn_10 : decode cX12_soonOn 10 = .ok (.invokevirtual 246, 3) := by decide +kernel
theorem dX12_soonOn_13 : decode cX12_soonOn 13 = .ok (.istore_n 3, 1) := by decide +kernel
theorem dX12_soonOn_14 : decode cX12_soonOn 14 = .ok (.aload_n 0, 1) := by decide +kernel
theorem dX12_soonOn_15 : decode cX12_soonOn 15 = .ok (.iload_n 3, 1) := by decide +kernel
theorem dX12_soonOn_16 : decode cX12_soonOn 16 = .ok (.iload_n 2, 1) := by decide +kernel
theorem dX12_soonOn_17 : decode cX12_soonOn 17 = .ok (.aload_n 0, 1) := by decide +kernel
theorem dX12_soonOn_18 : decode cX12_soonOn 18 = .ok (.getfield 9, 3) := by decide +kernel
theorem dX12_soonOn_21 : decode cX12_soonOn 21 = .ok (.iconst 2, 1) := by decide +kernel
theorem dX12_soonOn_22 : decode cX12_soonOn 22 = .ok (.iaload, 1) := by decide +kernel
theorem dX12_soonOn_23 : decode cX12_soonOn 23 = .ok (.invokevirtual 306, 3) := by decide +kernel
theorem dX12_soonOn_26 : decode cX12_soonOn 26 = .ok (.istore 4, 2) := by decide +kernel
theorem dX12_soonOn_28 : decode cX12_soonOn 28 = .ok (.iload_n 2, 1) := by decide +kernel
theorem dX12_soonOn_29 : decode cX12_soonOn 29 = .ok (.iconst 1, 1) := by decide +kernel
theorem dX12_soonOn_30 : decode cX12_soonOn 30 = .ok (.isub, 1) := by decide +kernel
theorem dX12_soonOn_31 : decode cX12_soonOn 31 = .ok (.istore 5, 2) := by decide +kernel
theorem dX12_soonOn_33 : decode cX12_soonOn 33 = .ok (.iload 5, 2) := by decide +kernel
theorem dX12_soonOn_35 : decode cX12_soonOn 35 = .ok (.ifCond .le 30, 3) := by decide +kernel
theorem dX12_soonOn_38 : decode cX12_soonOn 38 = .ok (.aload_n 0, 1) := by decide +kernel
theorem dX12_soonOn_39 : decode cX12_soonOn 39 = .ok (.aload_n 0, 1) := by decide +kernel
theorem dX12_soonOn_40 : decode cX12_soonOn 40 = .ok (.iload_n 3, 1) := by decide +kernel
theorem dX12_soonOn_41 : decode cX12_soonOn 41 = .ok (.iload 5, 2) := by decide +kernel
theorem dX12_soonOn_43 : decode cX12_soonOn 43 = .ok (.aload_n 0, 1) := by decide +kernel
theorem dX12_soonOn_44 : decode cX12_soonOn 44 = .ok (.getfield 9, 3) := by decide +kernel
theorem dX12_soonOn_47 : decode cX12_soonOn 47 = .ok (.iconst 2, 1) := by decide +kernel
theorem dX12_soonOn_48 : decode cX12_soonOn 48 = .ok (.iaload, 1) := by decide +kernel
theorem dX12_soonOn_49 : decode cX12_soonOn 49 = .ok (.invokevirtual 306, 3) := by decide +kernel
theorem dX12_soonOn_52 : decode cX12_soonOn 52 = .ok (.iload 4, 2) := by decide +kernel
theorem dX12_soonOn_54 : decode cX12_soonOn 54 = .ok (.invokevirtual 335, 3) := by decide +kernel
theorem dX12_soonOn_57 : decode cX12_soonOn 57 = .ok (.istore 4, 2) := by decide +kernel
theorem dX12_soonOn_59 : decode cX12_soonOn 59 = .ok (.iinc 5 (-1), 3) := by decide +kernel
theorem dX12_soonOn_62 : decode cX12_soonOn 62 = .ok (.goto (-29), 3) := by decide +kernel
theorem dX12_soonOn_65 : decode cX12_soonOn 65 = .ok (.iload 4, 2) := by decide +kernel
theorem dX12_soonOn_67 : decode cX12_soonOn 67 = .ok (.ireturn, 1) := by decide +kernel
theorem dX12_unsaid_0 : decode cX12_unsaid 0 = .ok (.aload_n 0, 1) := by decide +kernel
theorem dX12_unsaid_1 : decode cX12_unsaid 1 = .ok (.invokevirtual 77, 3) := by decide +kernel
theorem dX12_unsaid_4 : decode cX12_unsaid 4 = .ok (.ifCond .ne 6, 3) := by decide +kernel
theorem dX12_unsaid_7 : decode cX12_unsaid 7 = .ok (.bipush (-2), 2) := by decide +kernel
theorem dX12_unsaid_9 : decode cX12_unsaid 9 = .ok (.ireturn, 1) := by decide +kernel
theorem dX12_unsaid_10 : decode cX12_unsaid 10 = .ok (.iconst 0, 1) := by decide +kernel
theorem dX12_unsaid_11 : decode cX12_unsaid 11 = .ok (.istore_n 1, 1) := by decide +kernel
theorem dX12_unsaid_12 : decode cX12_unsaid 12 = .ok (.iconst 0, 1) := by decide +kernel
theorem dX12_unsaid_13 : decode cX12_unsaid 13 = .ok (.istore_n 2, 1) := by decide +kernel
theorem dX12_unsaid_14 : decode cX12_unsaid 14 = .ok (.iload_n 2, 1) := by decide +kernel
theorem dX12_unsaid_15 : decode cX12_unsaid 15 = .ok (.aload_n 0, 1) := by decide +kernel
theorem dX12_unsaid_16 : decode cX12_unsaid 16 = .ok (.getfield 9, 3) := by decide +kernel
theorem dX12_unsaid_19 : decode cX12_unsaid 19 = .ok (.iconst 0, 1) := by decide +kernel
theorem dX12_unsaid_20 : decode cX12_unsaid 20 = .ok (.iaload, 1) := by decide +kernel
theorem dX12_unsaid_21 : decode cX12_unsaid 21 = .ok (.if_icmp .ge 82, 3) := by decide +kernel
theorem dX12_unsaid_24 : decode cX12_unsaid 24 = .ok (.aload_n 0, 1) := by decide +kernel
theorem dX12_unsaid_25 : decode cX12_unsaid 25 = .ok (.invokevirtual 81, 3) := by decide +kernel
theorem dX12_unsaid_28 : decode cX12_unsaid 28 = .ok (.istore_n 3, 1) := by decide +kernel
theorem dX12_unsaid_29 : decode cX12_unsaid 29 = .ok (.iconst 0, 1) := by decide +kernel
theorem dX12_unsaid_30 : decode cX12_unsaid 30 = .ok (.istore 4, 2) := by decide +kernel
theorem dX12_unsaid_32 : decode cX12_unsaid 32 = .ok (.iload 4, 2) := by decide +kernel
theorem dX12_unsaid_34 : decode cX12_unsaid 34 = .ok (.aload_n 0, 1) := by decide +kernel
theorem dX12_unsaid_35 : decode cX12_unsaid 35 = .ok (.getfield 9, 3) := by decide +kernel
theorem dX12_unsaid_38 : decode cX12_unsaid 38 = .ok (.bipush 6, 2) := by decide +kernel
theorem dX12_unsaid_40 : decode cX12_unsaid 40 = .ok (.iaload, 1) := by decide +kernel
theorem dX12_unsaid_41 : decode cX12_unsaid 41 = .ok (.if_icmp .ge 39, 3) := by decide +kernel
theorem dX12_unsaid_44 : decode cX12_unsaid 44 = .ok (.iload_n 3, 1) := by decide +kernel
theorem dX12_unsaid_45 : decode cX12_unsaid 45 = .ok (.aload_n 0, 1) := by decide +kernel
theorem dX12_unsaid_46 : decode cX12_unsaid 46 = .ok (.iload 4, 2) := by decide +kernel
theorem dX12_unsaid_48 : decode cX12_unsaid 48 = .ok (.invokevirtual 85, 3) := by decide +kernel
theorem dX12_unsaid_51 : decode cX12_unsaid 51 = .ok (.iload_n 2, 1) := by decide +kernel
theorem dX12_unsaid_52 : decode cX12_unsaid 52 = .ok (.invokestatic 89, 3) := by decide +kernel
theorem dX12_unsaid_55 : decode cX12_unsaid 55 = .ok (.iconst 1, 1) := by decide +kernel
theorem dX12_unsaid_56 : decode cX12_unsaid 56 = .ok (.if_icmp .ne 12, 3) := by decide +kernel
theorem dX12_unsaid_59 : decode cX12_unsaid 59 = .ok (.aload_n 0, 1) := by decide +kernel
theorem dX12_unsaid_60 : decode cX12_unsaid 60 = .ok (.iload 4, 2) := by decide +kernel
theorem dX12_unsaid_62 : decode cX12_unsaid 62 = .ok (.invokevirtual 85, 3) := by decide +kernel
theorem dX12_unsaid_65 : decode cX12_unsaid 65 = .ok (.goto 7, 3) := by decide +kernel
theorem dX12_unsaid_68 : decode cX12_unsaid 68 = .ok (.aload_n 0, 1) := by decide +kernel
theorem dX12_unsaid_69 : decode cX12_unsaid 69 = .ok (.invokevirtual 81, 3) := by decide +kernel
theorem dX12_unsaid_72 : decode cX12_unsaid 72 = .ok (.iand, 1) := by decide +kernel
theorem dX12_unsaid_73 : decode cX12_unsaid 73 = .ok (.istore_n 3, 1) := by decide +kernel
theorem dX12_unsaid_74 : decode cX12_unsaid 74 = .ok (.iinc 4 1, 3) := by decide +kernel
theorem dX12_unsaid_77 : decode cX12_unsaid 77 = .ok (.goto (-45), 3) := by decide +kernel
theorem dX12_unsaid_80 : decode cX12_unsaid 80 = .ok (.iload_n 1, 1) := by decide +kernel
theorem dX12_unsaid_81 : decode cX12_unsaid 81 = .ok (.iload_n 3, 1) := by decide +kernel
theorem dX12_unsaid_82 : decode cX12_unsaid 82 = .ok (.iconst 1, 1) := by decide +kernel
theorem dX12_unsaid_83 : decode cX12_unsaid 83 = .ok (.iload_n 2, 1) := by decide +kernel
theorem dX12_unsaid_84 : decode cX12_unsaid 84 = .ok (.ishl, 1) := by decide +kernel
theorem dX12_unsaid_85 : decode cX12_unsaid 85 = .ok (.if_icmp .ne 7, 3) := by decide +kernel
theorem dX12_unsaid_88 : decode cX12_unsaid 88 = .ok (.iconst 0, 1) := by decide +kernel
theorem dX12_unsaid_89 : decode cX12_unsaid 89 = .ok (.goto 6, 3) := by decide +kernel
theorem dX12_unsaid_92 : decode cX12_unsaid 92 = .ok (.iconst 1, 1) := by decide +kernel
theorem dX12_unsaid_93 : decode cX12_unsaid 93 = .ok (.iload_n 2, 1) := by decide +kernel
theorem dX12_unsaid_94 : decode cX12_unsaid 94 = .ok (.ishl, 1) := by decide +kernel
theorem dX12_unsaid_95 : decode cX12_unsaid 95 = .ok (.ior, 1) := by decide +kernel
theorem dX12_unsaid_96 : decode cX12_unsaid 96 = .ok (.istore_n 1, 1) := by decide +kernel
theorem dX12_unsaid_97 : decode cX12_unsaid 97 = .ok (.iinc 2 1, 3) := by decide +kernel
theorem dX12_unsaid_100 : decode cX12_unsaid 100 = .ok (.goto (-86), 3) := by decide +kernel
theorem dX12_unsaid_103 : decode cX12_unsaid 103 = .ok (.iload_n 1, 1) := by decide +kernel
theorem dX12_unsaid_104 : decode cX12_unsaid 104 = .ok (.ireturn, 1) := by decide +kernel
