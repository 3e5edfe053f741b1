theorem dX0_everything_0 : decode cX0_everything 0 = .ok (.iconst 1, 1) := by decide +kernel
theorem dX0_everything_1 : decode cX0_everything 1 = .ok (.aload_n 0, 1) := by decide +kernel
theorem dX0_everything_2 : decode cX0_everything 2 = .ok (.getfield 46, 3) := by decide +kernel
theorem dX0_everything_5 : decode cX0_everything 5 = .ok (.ishl, 1) := by decide +kernel
theorem dX0_everything_6 : decode cX0_everything 6 = .ok (.iconst 1, 1) := by decide +kernel
theorem dX0_everything_7 : decode cX0_everything 7 = .ok (.isub, 1) := by decide +kernel
theorem dX0_everything_8 : decode cX0_everything 8 = .ok (.ireturn, 1) := by decide +kernel
theorem dX0_hasBelief_0 : decode cX0_hasBelief 0 = .ok (.iload_n 1, 1) := by decide +kernel
theorem dX0_hasBelief_1 : decode cX0_hasBelief 1 = .ok (.iconst 1, 1) := by decide +kernel
theorem dX0_hasBelief_2 : decode cX0_hasBelief 2 = .ok (.if_icmp .lt 15, 3) := by decide +kernel
theorem dX0_hasBelief_5 : decode cX0_hasBelief 5 = .ok (.iload_n 1, 1) := by decide +kernel
theorem dX0_hasBelief_6 : decode cX0_hasBelief 6 = .ok (.aload_n 0, 1) := by decide +kernel
theorem dX0_hasBelief_7 : decode cX0_hasBelief 7 = .ok (.invokevirtual 100, 3) := by decide +kernel
theorem dX0_hasBelief_10 : decode cX0_hasBelief 10 = .ok (.if_icmp .gt 7, 3) := by decide +kernel
theorem dX0_hasBelief_17 : decode cX0_hasBelief 17 = .ok (.iconst 0, 1) := by decide +kernel
theorem dX0_hasBelief_18 : decode cX0_hasBelief 18 = .ok (.ireturn, 1) := by decide +kernel
theorem dX0_hasDay_0 : decode cX0_hasDay 0 = .ok (.iload_n 1, 1) := by decide +kernel
theorem dX0_hasDay_1 : decode cX0_hasDay 1 = .ok (.ifCond .lt 15, 3) := by decide +kernel
theorem dX0_hasDay_4 : decode cX0_hasDay 4 = .ok (.iload_n 1, 1) := by decide +kernel
theorem dX0_hasDay_5 : decode cX0_hasDay 5 = .ok (.aload_n 0, 1) := by decide +kernel
theorem dX0_hasDay_6 : decode cX0_hasDay 6 = .ok (.getfield 53, 3) := by decide +kernel
theorem dX0_hasDay_9 : decode cX0_hasDay 9 = .ok (.if_icmp .ge 7, 3) := by decide +kernel
theorem dX0_hasDay_16 : decode cX0_hasDay 16 = .ok (.iconst 0, 1) := by decide +kernel
theorem dX0_hasDay_17 : decode cX0_hasDay 17 = .ok (.ireturn, 1) := by decide +kernel
theorem dX0_hasHearer_0 : decode cX0_hasHearer 0 = .ok (.iload_n 1, 1) := by decide +kernel
theorem dX0_hasHearer_1 : decode cX0_hasHearer 1 = .ok (.ifCond .lt 15, 3) := by decide +kernel
theorem dX0_hasHearer_4 : decode cX0_hasHearer 4 = .ok (.iload_n 1, 1) := by decide +kernel
theorem dX0_hasHearer_5 : decode cX0_hasHearer 5 = .ok (.aload_n 0, 1) := by decide +kernel
theorem dX0_hasHearer_6 : decode cX0_hasHearer 6 = .ok (.getfield 65, 3) := by decide +kernel
theorem dX0_hasHearer_9 : decode cX0_hasHearer 9 = .ok (.if_icmp .ge 7, 3) := by decide +kernel
theorem dX0_hasHearer_16 : decode cX0_hasHearer 16 = .ok (.iconst 0, 1) := by decide +kernel
theorem dX0_hasHearer_17 : decode cX0_hasHearer 17 = .ok (.ireturn, 1) := by decide +kernel
theorem dX0_hasNews_0 : decode cX0_hasNews 0 = .ok (.iload_n 1, 1) := by decide +kernel
theorem dX0_hasNews_1 : decode cX0_hasNews 1 = .ok (.ifCond .lt 15, 3) := by decide +kernel
theorem dX0_hasNews_4 : decode cX0_hasNews 4 = .ok (.iload_n 1, 1) := by decide +kernel
theorem dX0_hasNews_5 : decode cX0_hasNews 5 = .ok (.aload_n 0, 1) := by decide +kernel
theorem dX0_hasNews_6 : decode cX0_hasNews 6 = .ok (.getfield 74, 3) := by decide +kernel
theorem dX0_hasNews_9 : decode cX0_hasNews 9 = .ok (.if_icmp .ge 7, 3) := by decide +kernel
theorem dX0_hasNews_16 : decode cX0_hasNews 16 = .ok (.iconst 0, 1) := by decide +kernel
theorem dX0_hasNews_17 : decode cX0_hasNews 17 = .ok (.ireturn, 1) := by decide +kernel
theorem dX0_hasPlan_0 : decode cX0_hasPlan 0 = .ok (.iload_n 1, 1) := by decide +kernel
theorem dX0_hasPlan_1 : decode cX0_hasPlan 1 = .ok (.ifCond .lt 15, 3) := by decide +kernel
theorem dX0_hasPlan_4 : decode cX0_hasPlan 4 = .ok (.iload_n 1, 1) := by decide +kernel
theorem dX0_hasPlan_5 : decode cX0_hasPlan 5 = .ok (.aload_n 0, 1) := by decide +kernel
theorem dX0_hasPlan_6 : decode cX0_hasPlan 6 = .ok (.getfield 71, 3) := by decide +kernel
theorem dX0_hasPlan_9 : decode cX0_hasPlan 9 = .ok (.if_icmp .ge 7, 3) := by decide +kernel
theorem dX0_hasPlan_16 : decode cX0_hasPlan 16 = .ok (.iconst 0, 1) := by decide +kernel
theorem dX0_hasPlan_17 : decode cX0_hasPlan 17 = .ok (.ireturn, 1) := by decide +kernel
theorem dX0_hasState_0 : decode cX0_hasState 0 = .ok (.iload_n 1, 1) := by decide +kernel
theorem dX0_hasState_1 : decode cX0_hasState 1 = .ok (.ifCond .lt 15, 3) := by decide +kernel
theorem dX0_hasState_4 : decode cX0_hasState 4 = .ok (.iload_n 1, 1) := by decide +kernel
theorem dX0_hasState_5 : decode cX0_hasState 5 = .ok (.aload_n 0, 1) := by decide +kernel
theorem dX0_hasState_6 : decode cX0_hasState 6 = .ok (.getfield 46, 3) := by decide +kernel
theorem dX0_hasState_9 : decode cX0_hasState 9 = .ok (.if_icmp .ge 7, 3) := by decide +kernel
theorem dX0_hasState_16 : decode cX0_hasState 16 = .ok (.iconst 0, 1) := by decide +kernel
theorem dX0_hasState_17 : decode cX0_hasState 17 = .ok (.ireturn, 1) := by decide +kernel
theorem dX0_hasWord_0 : decode cX0_hasWord 0 = .ok (.iload_n 1, 1) := by decide +kernel
theorem dX0_hasWord_1 : decode cX0_hasWord 1 = .ok (.ifCond .lt 15, 3) := by decide +kernel
theorem dX0_hasWord_4 : decode cX0_hasWord 4 = .ok (.iload_n 1, 1) := by decide +kernel
theorem dX0_hasWord_5 : decode cX0_hasWord 5 = .ok (.aload_n 0, 1) := by decide +kernel
theorem dX0_hasWord_6 : decode cX0_hasWord 6 = .ok (.getfield 68, 3) := by decide +kernel
theorem dX0_hasWord_9 : decode cX0_hasWord 9 = .ok (.if_icmp .ge 7, 3) := by decide +kernel
theorem dX0_hasWord_16 : decode cX0_hasWord 16 = .ok (.iconst 0, 1) := by decide +kernel
theorem dX0_hasWord_17 : decode cX0_hasWord 17 = .ok (.ireturn, 1) := by decide +kernel
theorem dX0_stands_0 : decode cX0_stands 0 = .ok (.aload_n 0, 1) := by decide +kernel
theorem dX0_stands_1 : decode cX0_stands 1 = .ok (.getfield 62, 3) := by decide +kernel
theorem dX0_stands_4 : decode cX0_stands 4 = .ok (.ifCond .le 7, 3) := by decide +kernel
theorem dX0_stands_11 : decode cX0_stands 11 = .ok (.iconst 0, 1) := by decide +kernel
theorem dX0_stands_12 : decode cX0_stands 12 = .ok (.ireturn, 1) := by decide +kernel
theorem dX11_all_0 : decode cX11_all 0 = .ok (.aload_n 0, 1) := by decide +kernel
theorem dX11_all_1 : decode cX11_all 1 = .ok (.getfield 19, 3) := by decide +kernel
theorem dX11_all_4 : decode cX11_all 4 = .ok (.invokevirtual 245, 3) := by decide +kernel
theorem dX11_all_7 : decode cX11_all 7 = .ok (.ifCond .ne 6, 3) := by decide +kernel
theorem dX11_all_10 : decode cX11_all 10 = .ok (.bipush (-2), 2) := by decide +kernel
theorem dX11_all_12 : decode cX11_all 12 = .ok (.ireturn, 1) := by decide +kernel
theorem dX11_behind_0 : decode cX11_behind 0 = .ok (.aload_n 0, 1) := by decide +kernel
theorem dX11_behind_1 : decode cX11_behind 1 = .ok (.getfield 19, 3) := by decide +kernel
theorem dX11_behind_4 : decode cX11_behind 4 = .ok (.iload_n 1, 1) := by decide +kernel
theorem dX11_behind_5 : decode cX11_behind 5 = .ok (.invokevirtual 159, 3) := by decide +kernel
theorem dX11_behind_8 : decode cX11_behind 8 = .ok (.ifCond .eq 14, 3) := by decide +kernel
theorem dX11_behind_22 : decode cX11_behind 22 = .ok (.bipush (-2), 2) := by decide +kernel
theorem dX11_behind_24 : decode cX11_behind 24 = .ok (.ireturn, 1) := by decide +kernel
theorem dX11_believes_0 : decode cX11_believes 0 = .ok (.aload_n 0, 1) := by decide +kernel
theorem dX11_believes_1 : decode cX11_believes 1 = .ok (.iload_n 1, 1) := by decide +kernel
theorem dX11_believes_2 : decode cX11_believes 2 = .ok (.invokevirtual 183, 3) := by decide +kernel
theorem dX11_believes_5 : decode cX11_believes 5 = .ok (.istore_n 2, 1) := by decide +kernel
theorem dX11_believes_6 : decode cX11_believes 6 = .ok (.iload_n 2, 1) := by decide +kernel
theorem dX11_believes_7 : decode cX11_believes 7 = .ok (.ifCond .ge 7, 3) := by decide +kernel
theorem dX11_believes_10 : decode cX11_believes 10 = .ok (.iload_n 2, 1) := by decide +kernel
theorem dX11_believes_11 : decode cX11_believes 11 = .ok (.goto 14, 3) := by decide +kernel
theorem dX11_believes_25 : decode cX11_believes 25 = .ok (.ireturn, 1) := by decide +kernel
theorem dX11_calm_0 : decode cX11_calm 0 = .ok (.aload_n 0, 1) := by decide +kernel
theorem dX11_calm_1 : decode cX11_calm 1 = .ok (.getfield 19, 3) := by decide +kernel
theorem dX11_calm_4 : decode cX11_calm 4 = .ok (.iload_n 1, 1) := by decide +kernel
theorem dX11_calm_5 : decode cX11_calm 5 = .ok (.invokevirtual 122, 3) := by decide +kernel
theorem dX11_calm_8 : decode cX11_calm 8 = .ok (.ifCond .eq 14, 3) := by decide +kernel
theorem dX11_calm_22 : decode cX11_calm 22 = .ok (.bipush (-2), 2) := by decide +kernel
theorem dX11_calm_24 : decode cX11_calm 24 = .ok (.ireturn, 1) := by decide +kernel
theorem dX11_chance_0 : decode cX11_chance 0 = .ok (.aload_n 0, 1) := by decide +kernel
theorem dX11_chance_1 : decode cX11_chance 1 = .ok (.getfield 19, 3) := by decide +kernel
theorem dX11_chance_4 : decode cX11_chance 4 = .ok (.iload_n 1, 1) := by decide +kernel
theorem dX11_chance_5 : decode cX11_chance 5 = .ok (.invokevirtual 122, 3) := by decide +kernel
theorem dX11_chance_8 : decode cX11_chance 8 = .ok (.ifCond .eq 14, 3) := by decide +kernel
theorem dX11_chance_22 : decode cX11_chance 22 = .ok (.bipush (-2), 2) := by decide +kernel
theorem dX11_chance_24 : decode cX11_chance 24 = .ok (.ireturn, 1) := by decide +kernel
theorem dX11_doubt_0 : decode cX11_doubt 0 = .ok (.aload_n 0, 1) := by decide +kernel
theorem dX11_doubt_1 : decode cX11_doubt 1 = .ok (.getfield 19, 3) := by decide +kernel
theorem dX11_doubt_4 : decode cX11_doubt 4 = .ok (.iload_n 1, 1) := by decide +kernel
theorem dX11_doubt_5 : decode cX11_doubt 5 = .ok (.invokevirtual 122, 3) := by decide +kernel
theorem dX11_doubt_8 : decode cX11_doubt 8 = .ok (.ifCond .eq 24, 3) := by decide +kernel
theorem dX11_doubt_32 : decode cX11_doubt 32 = .ok (.bipush (-2), 2) := by decide +kernel
theorem dX11_doubt_34 : decode cX11_doubt 34 = .ok (.ireturn, 1) := by decide +kernel
theorem dX11_drawn_0 : decode cX11_drawn 0 = .ok (.iload_n 1, 1) := by decide +kernel
theorem dX11_drawn_1 : decode cX11_drawn 1 = .ok (.invokestatic 371, 3) := by decide +kernel
theorem dX11_drawn_4 : decode cX11_drawn 4 = .ok (.ifCond .eq 25, 3) := by decide +kernel
theorem dX11_drawn_7 : decode cX11_drawn 7 = .ok (.aload_n 0, 1) := by decide +kernel
theorem dX11_drawn_8 : decode cX11_drawn 8 = .ok (.getfield 19, 3) := by decide +kernel
theorem dX11_drawn_11 : decode cX11_drawn 11 = .ok (.iload_n 3, 1) := by decide +kernel
theorem dX11_drawn_12 : decode cX11_drawn 12 = .ok (.invokevirtual 122, 3) := by decide +kernel
theorem dX11_drawn_15 : decode cX11_drawn 15 = .ok (.ifCond .eq 14, 3) := by decide +kernel
theorem dX11_drawn_29 : decode cX11_drawn 29 = .ok (.bipush (-2), 2) := by decide +kernel
theorem dX11_drawn_31 : decode cX11_drawn 31 = .ok (.ireturn, 1) := by decide +kernel
theorem dX11_ends_0 : decode cX11_ends 0 = .ok (.aload_n 0, 1) := by decide +kernel
theorem dX11_ends_1 : decode cX11_ends 1 = .ok (.getfield 19, 3) := by decide +kernel
theorem dX11_ends_4 : decode cX11_ends 4 = .ok (.iload_n 1, 1) := by decide +kernel
theorem dX11_ends_5 : decode cX11_ends 5 = .ok (.invokevirtual 144, 3) := by decide +kernel
theorem dX11_ends_8 : decode cX11_ends 8 = .ok (.ifCond .eq 14, 3) := by decide +kernel
theorem dX11_ends_22 : decode cX11_ends 22 = .ok (.bipush (-2), 2) := by decide +kernel
theorem dX11_ends_24 : decode cX11_ends 24 = .ok (.ireturn, 1) := by decide +kernel
theorem dX11_enough_0 : decode cX11_enough 0 = .ok (.aload_n 0, 1) := by decide +kernel
theorem dX11_enough_1 : decode cX11_enough 1 = .ok (.getfield 19, 3) := by decide +kernel
theorem dX11_enough_4 : decode cX11_enough 4 = .ok (.iload_n 1, 1) := by decide +kernel
theorem dX11_enough_5 : decode cX11_enough 5 = .ok (.invokevirtual 122, 3) := by decide +kernel
theorem dX11_enough_8 : decode cX11_enough 8 = .ok (.ifCond .ne 6, 3) := by decide +kernel
theorem dX11_enough_11 : decode cX11_enough 11 = .ok (.bipush (-2), 2) := by decide +kernel
theorem dX11_enough_13 : decode cX11_enough 13 = .ok (.ireturn, 1) := by decide +kernel
theorem dX11_feelWeek_0 : decode cX11_feelWeek 0 = .ok (.aload_n 0, 1) := by decide +kernel
theorem dX11_feelWeek_1 : decode cX11_feelWeek 1 = .ok (.getfield 19, 3) := by decide +kernel
theorem dX11_feelWeek_4 : decode cX11_feelWeek 4 = .ok (.iload_n 2, 1) := by decide +kernel
theorem dX11_feelWeek_5 : decode cX11_feelWeek 5 = .ok (.invokevirtual 122, 3) := by decide +kernel
theorem dX11_feelWeek_8 : decode cX11_feelWeek 8 = .ok (.ifCond .ne 6, 3) := by decide +kernel
theorem dX11_feelWeek_11 : decode cX11_feelWeek 11 = .ok (.bipush (-2), 2) := by decide +kernel
theorem dX11_feelWeek_13 : decode cX11_feelWeek 13 = .ok (.ireturn, 1) := by decide +kernel
theorem dX11_fewest_0 : decode cX11_fewest 0 = .ok (.aload_n 0, 1) := by decide +kernel
theorem dX11_fewest_1 : decode cX11_fewest 1 = .ok (.getfield 19, 3) := by decide +kernel
theorem dX11_fewest_4 : decode cX11_fewest 4 = .ok (.invokevirtual 245, 3) := by decide +kernel
theorem dX11_fewest_7 : decode cX11_fewest 7 = .ok (.ifCond .ne 6, 3) := by decide +kernel
theorem dX11_fewest_10 : decode cX11_fewest 10 = .ok (.bipush (-2), 2) := by decide +kernel
theorem dX11_fewest_12 : decode cX11_fewest 12 = .ok (.ireturn, 1) := by decide +kernel
theorem dX11_first_0 : decode cX11_first 0 = .ok (.aload_n 0, 1) := by decide +kernel
theorem dX11_first_1 : decode cX11_first 1 = .ok (.getfield 19, 3) := by decide +kernel
theorem dX11_first_4 : decode cX11_first 4 = .ok (.invokevirtual 245, 3) := by decide +kernel
theorem dX11_first_7 : decode cX11_first 7 = .ok (.ifCond .eq 13, 3) := by decide +kernel
theorem dX11_first_20 : decode cX11_first 20 = .ok (.bipush (-2), 2) := by decide +kernel
theorem dX11_first_22 : decode cX11_first 22 = .ok (.ireturn, 1) := by decide +kernel
theorem dX11_gentlest_0 : decode cX11_gentlest 0 = .ok (.aload_n 0, 1) := by decide +kernel
theorem dX11_gentlest_1 : decode cX11_gentlest 1 = .ok (.getfield 19, 3) := by decide +kernel
theorem dX11_gentlest_4 : decode cX11_gentlest 4 = .ok (.iload_n 1, 1) := by decide +kernel
theorem dX11_gentlest_5 : decode cX11_gentlest 5 = .ok (.invokevirtual 122, 3) := by decide +kernel
theorem dX11_gentlest_8 : decode cX11_gentlest 8 = .ok (.ifCond .eq 13, 3) := by decide +kernel
theorem dX11_gentlest_21 : decode cX11_gentlest 21 = .ok (.bipush (-2), 2) := by decide +kernel
theorem dX11_gentlest_23 : decode cX11_gentlest 23 = .ok (.ireturn, 1) := by decide +kernel
theorem dX11_gently_0 : decode cX11_gently 0 = .ok (.aload_n 0, 1) := by decide +kernel
theorem dX11_gently_1 : decode cX11_gently 1 = .ok (.iload_n 1, 1) := by decide +kernel
theorem dX11_gently_2 : decode cX11_gently 2 = .ok (.iload_n 2, 1) := by decide +kernel
theorem dX11_gently_3 : decode cX11_gently 3 = .ok (.iconst 1, 1) := by decide +kernel
theorem dX11_gently_4 : decode cX11_gently 4 = .ok (.iconst 0, 1) := by decide +kernel
theorem dX11_gently_5 : decode cX11_gently 5 = .ok (.invokevirtual 241, 3) := by decide +kernel
theorem dX11_gently_8 : decode cX11_gently 8 = .ok (.ireturn, 1) := by decide +kernel
theorem dX11_grade_0 : decode cX11_grade 0 = .ok (.aload_n 0, 1) := by decide +kernel
theorem dX11_grade_1 : decode cX11_grade 1 = .ok (.getfield 19, 3) := by decide +kernel
theorem dX11_grade_4 : decode cX11_grade 4 = .ok (.iload_n 1, 1) := by decide +kernel
theorem dX11_grade_5 : decode cX11_grade 5 = .ok (.invokevirtual 114, 3) := by decide +kernel
theorem dX11_grade_8 : decode cX11_grade 8 = .ok (.ifCond .eq 15, 3) := by decide +kernel
theorem dX11_grade_23 : decode cX11_grade 23 = .ok (.bipush (-2), 2) := by decide +kernel
theorem dX11_grade_25 : decode cX11_grade 25 = .ok (.ireturn, 1) := by decide +kernel
theorem dX11_guess_0 : decode cX11_guess 0 = .ok (.aload_n 0, 1) := by decide +kernel
theorem dX11_guess_1 : decode cX11_guess 1 = .ok (.getfield 19, 3) := by decide +kernel
theorem dX11_guess_4 : decode cX11_guess 4 = .ok (.iload_n 2, 1) := by decide +kernel
theorem dX11_guess_5 : decode cX11_guess 5 = .ok (.invokevirtual 122, 3) := by decide +kernel
theorem dX11_guess_8 : decode cX11_guess 8 = .ok (.ifCond .ne 6, 3) := by decide +kernel
theorem dX11_guess_11 : decode cX11_guess 11 = .ok (.bipush (-2), 2) := by decide +kernel
theorem dX11_guess_13 : decode cX11_guess 13 = .ok (.ireturn, 1) := by decide +kernel
theorem dX11_heard_0 : decode cX11_heard 0 = .ok (.aload_n 0, 1) := by decide +kernel
theorem dX11_heard_1 : decode cX11_heard 1 = .ok (.getfield 19, 3) := by decide +kernel
theorem dX11_heard_4 : decode cX11_heard 4 = .ok (.invokevirtual 245, 3) := by decide +kernel
theorem dX11_heard_7 : decode cX11_heard 7 = .ok (.ifCond .eq 22, 3) := by decide +kernel
theorem dX11_heard_29 : decode cX11_heard 29 = .ok (.bipush (-2), 2) := by decide +kernel
theorem dX11_heard_31 : decode cX11_heard 31 = .ok (.ireturn, 1) := by decide +kernel
theorem dX11_honest_0 : decode cX11_honest 0 = .ok (.aload_n 0, 1) := by decide +kernel
theorem dX11_honest_1 : decode cX11_honest 1 = .ok (.iload_n 1, 1) := by decide +kernel
theorem dX11_honest_2 : decode cX11_honest 2 = .ok (.iload_n 2, 1) := by decide +kernel
theorem dX11_honest_3 : decode cX11_honest 3 = .ok (.iconst 0, 1) := by decide +kernel
theorem dX11_honest_4 : decode cX11_honest 4 = .ok (.iconst 1, 1) := by decide +kernel
theorem dX11_honest_5 : decode cX11_honest 5 = .ok (.invokevirtual 241, 3) := by decide +kernel
theorem dX11_honest_8 : decode cX11_honest 8 = .ok (.ireturn, 1) := by decide +kernel
theorem dX11_hope_0 : decode cX11_hope 0 = .ok (.aload_n 0, 1) := by decide +kernel
theorem dX11_hope_1 : decode cX11_hope 1 = .ok (.getfield 19, 3) := by decide +kernel
theorem dX11_hope_4 : decode cX11_hope 4 = .ok (.iload_n 2, 1) := by decide +kernel
theorem dX11_hope_5 : decode cX11_hope 5 = .ok (.invokevirtual 122, 3) := by decide +kernel
theorem dX11_hope_8 : decode cX11_hope 8 = .ok (.ifCond .eq 25, 3) := by decide +kernel
theorem dX11_hope_33 : decode cX11_hope 33 = .ok (.bipush (-2), 2) := by decide +kernel
theorem dX11_hope_35 : decode cX11_hope 35 = .ok (.ireturn, 1) := by decide +kernel
theorem dX11_hurt_0 : decode cX11_hurt 0 = .ok (.aload_n 0, 1) := by decide +kernel
theorem dX11_hurt_1 : decode cX11_hurt 1 = .ok (.getfield 19, 3) := by decide +kernel
theorem dX11_hurt_4 : decode cX11_hurt 4 = .ok (.iload_n 1, 1) := by decide +kernel
theorem dX11_hurt_5 : decode cX11_hurt 5 = .ok (.invokevirtual 122, 3) := by decide +kernel
theorem dX11_hurt_8 : decode cX11_hurt 8 = .ok (.ifCond .eq 25, 3) := by decide +kernel
theorem dX11_hurt_33 : decode cX11_hurt 33 = .ok (.bipush (-2), 2) := by decide +kernel
theorem dX11_hurt_35 : decode cX11_hurt 35 = .ok (.ireturn, 1) := by decide +kernel
theorem dX11_hurts_0 : decode cX11_hurts 0 = .ok (.aload_n 0, 1) := by decide +kernel
theorem dX11_hurts_1 : decode cX11_hurts 1 = .ok (.iload_n 1, 1) := by decide +kernel
theorem dX11_hurts_2 : decode cX11_hurts 2 = .ok (.iload_n 2, 1) := by decide +kernel
theorem dX11_hurts_3 : decode cX11_hurts 3 = .ok (.invokevirtual 191, 3) := by decide +kernel
theorem dX11_hurts_6 : decode cX11_hurts 6 = .ok (.istore_n 3, 1) := by decide +kernel
theorem dX11_hurts_7 : decode cX11_hurts 7 = .ok (.iload_n 3, 1) := by decide +kernel
theorem dX11_hurts_8 : decode cX11_hurts 8 = .ok (.ifCond .ge 7, 3) := by decide +kernel
theorem dX11_hurts_11 : decode cX11_hurts 11 = .ok (.iload_n 3, 1) := by decide +kernel
theorem dX11_hurts_12 : decode cX11_hurts 12 = .ok (.goto 10, 3) := by decide +kernel
theorem dX11_hurts_22 : decode cX11_hurts 22 = .ok (.ireturn, 1) := by decide +kernel
theorem dX11_idle_0 : decode cX11_idle 0 = .ok (.aload_n 0, 1) := by decide +kernel
theorem dX11_idle_1 : decode cX11_idle 1 = .ok (.getfield 19, 3) := by decide +kernel
theorem dX11_idle_4 : decode cX11_idle 4 = .ok (.invokevirtual 245, 3) := by decide +kernel
theorem dX11_idle_7 : decode cX11_idle 7 = .ok (.ifCond .ne 6, 3) := by decide +kernel
theorem dX11_idle_10 : decode cX11_idle 10 = .ok (.bipush (-2), 2) := by decide +kernel
theorem dX11_idle_12 : decode cX11_idle 12 = .ok (.ireturn, 1) := by decide +kernel
theorem dX11_isSeed_0 : decode cX11_isSeed 0 = .ok (.iload_n 0, 1) := by decide +kernel
theorem dX11_isSeed_1 : decode cX11_isSeed 1 = .ok (.ifCond .lt 14, 3) := by decide +kernel
theorem dX11_isSeed_4 : decode cX11_isSeed 4 = .ok (.iload_n 0, 1) := by decide +kernel
theorem dX11_isSeed_5 : decode cX11_isSeed 5 = .ok (.ldc_w 434, 3) := by decide +kernel
theorem dX11_isSeed_8 : decode cX11_isSeed 8 = .ok (.if_icmp .gt 7, 3) := by decide +kernel
theorem dX11_isSeed_11 : decode cX11_isSeed 11 = .ok (.iconst 1, 1) := by decide +kernel
theorem dX11_isSeed_12 : decode cX11_isSeed 12 = .ok (.goto 4, 3) := by decide +kernel
theorem dX11_isSeed_15 : decode cX11_isSeed 15 = .ok (.iconst 0, 1) := by decide +kernel
theorem dX11_isSeed_16 : decode cX11_isSeed 16 = .ok (.ireturn, 1) := by decide +kernel
theorem dX11_isSlot_0 : decode cX11_isSlot 0 = .ok (.iload_n 0, 1) := by decide +kernel
theorem dX11_isSlot_1 : decode cX11_isSlot 1 = .ok (.ifCond .lt 12, 3) := by decide +kernel
theorem dX11_isSlot_4 : decode cX11_isSlot 4 = .ok (.iload_n 0, 1) := by decide +kernel
theorem dX11_isSlot_5 : decode cX11_isSlot 5 = .ok (.iconst 4, 1) := by decide +kernel
theorem dX11_isSlot_6 : decode cX11_isSlot 6 = .ok (.if_icmp .ge 7, 3) := by decide +kernel
theorem dX11_isSlot_9 : decode cX11_isSlot 9 = .ok (.iconst 1, 1) := by decide +kernel
theorem dX11_isSlot_10 : decode cX11_isSlot 10 = .ok (.goto 4, 3) := by decide +kernel
theorem dX11_isSlot_13 : decode cX11_isSlot 13 = .ok (.iconst 0, 1) := by decide +kernel
theorem dX11_isSlot_14 : decode cX11_isSlot 14 = .ok (.ireturn, 1) := by decide +kernel
theorem dX11_joined_0 : decode cX11_joined 0 = .ok (.aload_n 0, 1) := by decide +kernel
theorem dX11_joined_1 : decode cX11_joined 1 = .ok (.getfield 19, 3) := by decide +kernel
theorem dX11_joined_4 : decode cX11_joined 4 = .ok (.invokevirtual 245, 3) := by decide +kernel
theorem dX11_joined_7 : decode cX11_joined 7 = .ok (.ifCond .eq 13, 3) := by decide +kernel
theorem dX11_joined_20 : decode cX11_joined 20 = .ok (.bipush (-2), 2) := by decide +kernel
theorem dX11_joined_22 : decode cX11_joined 22 = .ok (.ireturn, 1) := by decide +kernel
theorem dX11_knew_0 : decode cX11_knew 0 = .ok (.aload_n 0, 1) := by decide +kernel
theorem dX11_knew_1 : decode cX11_knew 1 = .ok (.iload_n 1, 1) := by decide +kernel
theorem dX11_knew_2 : decode cX11_knew 2 = .ok (.iload_n 2, 1) := by decide +kernel
theorem dX11_knew_3 : decode cX11_knew 3 = .ok (.invokevirtual 305, 3) := by decide +kernel
theorem dX11_knew_6 : decode cX11_knew 6 = .ok (.istore_n 3, 1) := by decide +kernel
theorem dX11_knew_7 : decode cX11_knew 7 = .ok (.iload_n 3, 1) := by decide +kernel
theorem dX11_knew_8 : decode cX11_knew 8 = .ok (.ifCond .ge 7, 3) := by decide +kernel
theorem dX11_knew_11 : decode cX11_knew 11 = .ok (.iload_n 3, 1) := by decide +kernel
theorem dX11_knew_12 : decode cX11_knew 12 = .ok (.goto 10, 3) := by decide +kernel
theorem dX11_knew_22 : decode cX11_knew 22 = .ok (.ireturn, 1) := by decide +kernel
theorem dX11_known_0 : decode cX11_known 0 = .ok (.aload_n 0, 1) := by decide +kernel
theorem dX11_known_1 : decode cX11_known 1 = .ok (.iload_n 1, 1) := by decide +kernel
theorem dX11_known_2 : decode cX11_known 2 = .ok (.invokevirtual 183, 3) := by decide +kernel
theorem dX11_known_5 : decode cX11_known 5 = .ok (.istore_n 2, 1) := by decide +kernel
theorem dX11_known_6 : decode cX11_known 6 = .ok (.iload_n 2, 1) := by decide +kernel
theorem dX11_known_7 : decode cX11_known 7 = .ok (.ifCond .ge 7, 3) := by decide +kernel
theorem dX11_known_10 : decode cX11_known 10 = .ok (.iload_n 2, 1) := by decide +kernel
theorem dX11_known_11 : decode cX11_known 11 = .ok (.goto 17, 3) := by decide +kernel
theorem dX11_known_28 : decode cX11_known 28 = .ok (.ireturn, 1) := by decide +kernel
theorem dX11_late_0 : decode cX11_late 0 = .ok (.aload_n 0, 1) := by decide +kernel
theorem dX11_late_1 : decode cX11_late 1 = .ok (.getfield 19, 3) := by decide +kernel
theorem dX11_late_4 : decode cX11_late 4 = .ok (.iload_n 1, 1) := by decide +kernel
theorem dX11_late_5 : decode cX11_late 5 = .ok (.invokevirtual 122, 3) := by decide +kernel
theorem dX11_late_8 : decode cX11_late 8 = .ok (.ifCond .eq 7, 3) := by decide +kernel
theorem dX11_late_15 : decode cX11_late 15 = .ok (.bipush (-2), 2) := by decide +kernel
theorem dX11_late_17 : decode cX11_late 17 = .ok (.ireturn, 1) := by decide +kernel
theorem dX11_leaks_0 : decode cX11_leaks 0 = .ok (.aload_n 0, 1) := by decide +kernel
theorem dX11_leaks_1 : decode cX11_leaks 1 = .ok (.getfield 19, 3) := by decide +kernel
theorem dX11_leaks_4 : decode cX11_leaks 4 = .ok (.invokevirtual 245, 3) := by decide +kernel
theorem dX11_leaks_7 : decode cX11_leaks 7 = .ok (.ifCond .eq 21, 3) := by decide +kernel
theorem dX11_leaks_28 : decode cX11_leaks 28 = .ok (.bipush (-2), 2) := by decide +kernel
theorem dX11_leaks_30 : decode cX11_leaks 30 = .ok (.ireturn, 1) := by decide +kernel
theorem dX11_least_0 : decode cX11_least 0 = .ok (.aload_n 0, 1) := by decide +kernel
theorem dX11_least_1 : decode cX11_least 1 = .ok (.getfield 19, 3) := by decide +kernel
theorem dX11_least_4 : decode cX11_least 4 = .ok (.iload_n 1, 1) := by decide +kernel
theorem dX11_least_5 : decode cX11_least 5 = .ok (.invokevirtual 122, 3) := by decide +kernel
theorem dX11_least_8 : decode cX11_least 8 = .ok (.ifCond .eq 13, 3) := by decide +kernel
theorem dX11_least_21 : decode cX11_least 21 = .ok (.bipush (-2), 2) := by decide +kernel
theorem dX11_least_23 : decode cX11_least 23 = .ok (.ireturn, 1) := by decide +kernel
theorem dX11_left_0 : decode cX11_left 0 = .ok (.aload_n 0, 1) := by decide +kernel
theorem dX11_left_1 : decode cX11_left 1 = .ok (.iload_n 1, 1) := by decide +kernel
theorem dX11_left_2 : decode cX11_left 2 = .ok (.iload_n 2, 1) := by decide +kernel
theorem dX11_left_3 : decode cX11_left 3 = .ok (.invokevirtual 191, 3) := by decide +kernel
theorem dX11_left_6 : decode cX11_left 6 = .ok (.istore_n 3, 1) := by decide +kernel
theorem dX11_left_7 : decode cX11_left 7 = .ok (.iload_n 3, 1) := by decide +kernel
theorem dX11_left_8 : decode cX11_left 8 = .ok (.ifCond .ge 7, 3) := by decide +kernel
theorem dX11_left_11 : decode cX11_left 11 = .ok (.iload_n 3, 1) := by decide +kernel
theorem dX11_left_12 : decode cX11_left 12 = .ok (.goto 14, 3) := by decide +kernel
theorem dX11_left_26 : decode cX11_left 26 = .ok (.ireturn, 1) := by decide +kernel
theorem dX11_letter_0 : decode cX11_letter 0 = .ok (.aload_n 0, 1) := by decide +kernel
theorem dX11_letter_1 : decode cX11_letter 1 = .ok (.getfield 19, 3) := by decide +kernel
theorem dX11_letter_4 : decode cX11_letter 4 = .ok (.iload_n 2, 1) := by decide +kernel
theorem dX11_letter_5 : decode cX11_letter 5 = .ok (.invokevirtual 150, 3) := by decide +kernel
theorem dX11_letter_8 : decode cX11_letter 8 = .ok (.ifCond .eq 13, 3) := by decide +kernel
theorem dX11_letter_21 : decode cX11_letter 21 = .ok (.bipush (-2), 2) := by decide +kernel
theorem dX11_letter_23 : decode cX11_letter 23 = .ok (.ireturn, 1) := by decide +kernel
theorem dX11_lies_0 : decode cX11_lies 0 = .ok (.aload_n 0, 1) := by decide +kernel
theorem dX11_lies_1 : decode cX11_lies 1 = .ok (.iload_n 1, 1) := by decide +kernel
theorem dX11_lies_2 : decode cX11_lies 2 = .ok (.invokevirtual 183, 3) := by decide +kernel
theorem dX11_lies_5 : decode cX11_lies 5 = .ok (.istore_n 2, 1) := by decide +kernel
theorem dX11_lies_6 : decode cX11_lies 6 = .ok (.iload_n 2, 1) := by decide +kernel
theorem dX11_lies_7 : decode cX11_lies 7 = .ok (.ifCond .ge 7, 3) := by decide +kernel
theorem dX11_lies_10 : decode cX11_lies 10 = .ok (.iload_n 2, 1) := by decide +kernel
theorem dX11_lies_11 : decode cX11_lies 11 = .ok (.goto 14, 3) := by decide +kernel
theorem dX11_lies_25 : decode cX11_lies 25 = .ok (.ireturn, 1) := by decide +kernel
theorem dX11_mean_0 : decode cX11_mean 0 = .ok (.aload_n 0, 1) := by decide +kernel
theorem dX11_mean_1 : decode cX11_mean 1 = .ok (.getfield 19, 3) := by decide +kernel
theorem dX11_mean_4 : decode cX11_mean 4 = .ok (.iload_n 1, 1) := by decide +kernel
theorem dX11_mean_5 : decode cX11_mean 5 = .ok (.invokevirtual 122, 3) := by decide +kernel
theorem dX11_mean_8 : decode cX11_mean 8 = .ok (.ifCond .eq 14, 3) := by decide +kernel
theorem dX11_mean_22 : decode cX11_mean 22 = .ok (.bipush (-2), 2) := by decide +kernel
theorem dX11_mean_24 : decode cX11_mean 24 = .ok (.ireturn, 1) := by decide +kernel
theorem dX11_news_0 : decode cX11_news 0 = .ok (.aload_n 0, 1) := by decide +kernel
theorem dX11_news_1 : decode cX11_news 1 = .ok (.getfield 19, 3) := by decide +kernel
theorem dX11_news_4 : decode cX11_news 4 = .ok (.iload_n 1, 1) := by decide +kernel
theorem dX11_news_5 : decode cX11_news 5 = .ok (.invokevirtual 150, 3) := by decide +kernel
theorem dX11_news_8 : decode cX11_news 8 = .ok (.ifCond .eq 15, 3) := by decide +kernel
theorem dX11_news_23 : decode cX11_news 23 = .ok (.sipush (-1000), 3) := by decide +kernel
theorem dX11_news_26 : decode cX11_news 26 = .ok (.ireturn, 1) := by decide +kernel
theorem dX11_now_0 : decode cX11_now 0 = .ok (.aload_n 0, 1) := by decide +kernel
theorem dX11_now_1 : decode cX11_now 1 = .ok (.getfield 19, 3) := by decide +kernel
theorem dX11_now_4 : decode cX11_now 4 = .ok (.iload_n 1, 1) := by decide +kernel
theorem dX11_now_5 : decode cX11_now 5 = .ok (.invokevirtual 122, 3) := by decide +kernel
theorem dX11_now_8 : decode cX11_now 8 = .ok (.ifCond .eq 25, 3) := by decide +kernel
theorem dX11_now_33 : decode cX11_now 33 = .ok (.bipush (-2), 2) := by decide +kernel
theorem dX11_now_35 : decode cX11_now 35 = .ok (.ireturn, 1) := by decide +kernel
theorem dX11_once_0 : decode cX11_once 0 = .ok (.aload_n 0, 1) := by decide +kernel
theorem dX11_once_1 : decode cX11_once 1 = .ok (.getfield 19, 3) := by decide +kernel
theorem dX11_once_4 : decode cX11_once 4 = .ok (.iload_n 1, 1) := by decide +kernel
theorem dX11_once_5 : decode cX11_once 5 = .ok (.invokevirtual 122, 3) := by decide +kernel
theorem dX11_once_8 : decode cX11_once 8 = .ok (.ifCond .eq 14, 3) := by decide +kernel
theorem dX11_once_22 : decode cX11_once 22 = .ok (.bipush (-2), 2) := by decide +kernel
theorem dX11_once_24 : decode cX11_once 24 = .ok (.ireturn, 1) := by decide +kernel
theorem dX11_orderWeek_0 : decode cX11_orderWeek 0 = .ok (.aload_n 0, 1) := by decide +kernel
theorem dX11_orderWeek_1 : decode cX11_orderWeek 1 = .ok (.getfield 19, 3) := by decide +kernel
theorem dX11_orderWeek_4 : decode cX11_orderWeek 4 = .ok (.iload_n 2, 1) := by decide +kernel
theorem dX11_orderWeek_5 : decode cX11_orderWeek 5 = .ok (.invokevirtual 122, 3) := by decide +kernel
theorem dX11_orderWeek_8 : decode cX11_orderWeek 8 = .ok (.ifCond .ne 6, 3) := by decide +kernel
theorem dX11_orderWeek_11 : decode cX11_orderWeek 11 = .ok (.bipush (-2), 2) := by decide +kernel
theorem dX11_orderWeek_13 : decode cX11_orderWeek 13 = .ok (.ireturn, 1) := by decide +kernel
theorem dX11_ordered_0 : decode cX11_ordered 0 = .ok (.aload_n 0, 1) := by decide +kernel
theorem dX11_ordered_1 : decode cX11_ordered 1 = .ok (.iload_n 1, 1) := by decide +kernel
theorem dX11_ordered_2 : decode cX11_ordered 2 = .ok (.iload_n 2, 1) := by decide +kernel
theorem dX11_ordered_3 : decode cX11_ordered 3 = .ok (.invokevirtual 216, 3) := by decide +kernel
theorem dX11_ordered_6 : decode cX11_ordered 6 = .ok (.istore 4, 2) := by decide +kernel
theorem dX11_ordered_8 : decode cX11_ordered 8 = .ok (.iload 4, 2) := by decide +kernel
theorem dX11_ordered_10 : decode cX11_ordered 10 = .ok (.ifCond .ge 6, 3) := by decide +kernel
theorem dX11_ordered_13 : decode cX11_ordered 13 = .ok (.iload 4, 2) := by decide +kernel
theorem dX11_ordered_15 : decode cX11_ordered 15 = .ok (.ireturn, 1) := by decide +kernel
theorem dX11_plan_0 : decode cX11_plan 0 = .ok (.aload_n 0, 1) := by decide +kernel
theorem dX11_plan_1 : decode cX11_plan 1 = .ok (.getfield 19, 3) := by decide +kernel
theorem dX11_plan_4 : decode cX11_plan 4 = .ok (.iload_n 1, 1) := by decide +kernel
theorem dX11_plan_5 : decode cX11_plan 5 = .ok (.invokevirtual 144, 3) := by decide +kernel
theorem dX11_plan_8 : decode cX11_plan 8 = .ok (.ifCond .ne 6, 3) := by decide +kernel
theorem dX11_plan_11 : decode cX11_plan 11 = .ok (.bipush (-2), 2) := by decide +kernel
theorem dX11_plan_13 : decode cX11_plan 13 = .ok (.ireturn, 1) := by decide +kernel
theorem dX11_read_0 : decode cX11_read 0 = .ok (.aload_n 0, 1) := by decide +kernel
theorem dX11_read_1 : decode cX11_read 1 = .ok (.iload_n 1, 1) := by decide +kernel
theorem dX11_read_2 : decode cX11_read 2 = .ok (.invokevirtual 183, 3) := by decide +kernel
theorem dX11_read_5 : decode cX11_read 5 = .ok (.istore_n 2, 1) := by decide +kernel
theorem dX11_read_6 : decode cX11_read 6 = .ok (.iload_n 2, 1) := by decide +kernel
theorem dX11_read_7 : decode cX11_read 7 = .ok (.ifCond .ge 7, 3) := by decide +kernel
theorem dX11_read_10 : decode cX11_read 10 = .ok (.iload_n 2, 1) := by decide +kernel
theorem dX11_read_11 : decode cX11_read 11 = .ok (.goto 14, 3) := by decide +kernel
theorem dX11_read_25 : decode cX11_read 25 = .ok (.ireturn, 1) := by decide +kernel
theorem dX11_really_0 : decode cX11_really 0 = .ok (.aload_n 0, 1) := by decide +kernel
theorem dX11_really_1 : decode cX11_really 1 = .ok (.getfield 19, 3) := by decide +kernel
theorem dX11_really_4 : decode cX11_really 4 = .ok (.iload_n 1, 1) := by decide +kernel
theorem dX11_really_5 : decode cX11_really 5 = .ok (.invokevirtual 114, 3) := by decide +kernel
theorem dX11_really_8 : decode cX11_really 8 = .ok (.ifCond .ne 6, 3) := by decide +kernel
theorem dX11_really_11 : decode cX11_really 11 = .ok (.bipush (-2), 2) := by decide +kernel
theorem dX11_really_13 : decode cX11_really 13 = .ok (.ireturn, 1) := by decide +kernel
theorem dX11_reckonWeek_0 : decode cX11_reckonWeek 0 = .ok (.aload_n 0, 1) := by decide +kernel
theorem dX11_reckonWeek_1 : decode cX11_reckonWeek 1 = .ok (.getfield 19, 3) := by decide +kernel
theorem dX11_reckonWeek_4 : decode cX11_reckonWeek 4 = .ok (.iload_n 2, 1) := by decide +kernel
theorem dX11_reckonWeek_5 : decode cX11_reckonWeek 5 = .ok (.invokevirtual 122, 3) := by decide +kernel
theorem dX11_reckonWeek_8 : decode cX11_reckonWeek 8 = .ok (.ifCond .ne 6, 3) := by decide +kernel
theorem dX11_reckonWeek_11 : decode cX11_reckonWeek 11 = .ok (.bipush (-2), 2) := by decide +kernel
theorem dX11_reckonWeek_13 : decode cX11_reckonWeek 13 = .ok (.ireturn, 1) := by decide +kernel
theorem dX11_reckoned_0 : decode cX11_reckoned 0 = .ok (.aload_n 0, 1) := by decide +kernel
theorem dX11_reckoned_1 : decode cX11_reckoned 1 = .ok (.iload_n 1, 1) := by decide +kernel
theorem dX11_reckoned_2 : decode cX11_reckoned 2 = .ok (.iload_n 2, 1) := by decide +kernel
theorem dX11_reckoned_3 : decode cX11_reckoned 3 = .ok (.invokevirtual 305, 3) := by decide +kernel
theorem dX11_reckoned_6 : decode cX11_reckoned 6 = .ok (.istore_n 3, 1) := by decide +kernel
theorem dX11_reckoned_7 : decode cX11_reckoned 7 = .ok (.iload_n 3, 1) := by decide +kernel
theorem dX11_reckoned_8 : decode cX11_reckoned 8 = .ok (.ifCond .ge 5, 3) := by decide +kernel
theorem dX11_reckoned_11 : decode cX11_reckoned 11 = .ok (.iload_n 3, 1) := by decide +kernel
theorem dX11_reckoned_12 : decode cX11_reckoned 12 = .ok (.ireturn, 1) := by decide +kernel
theorem dX11_rest_0 : decode cX11_rest 0 = .ok (.aload_n 0, 1) := by decide +kernel
theorem dX11_rest_1 : decode cX11_rest 1 = .ok (.getfield 19, 3) := by decide +kernel
theorem dX11_rest_4 : decode cX11_rest 4 = .ok (.iload_n 1, 1) := by decide +kernel
theorem dX11_rest_5 : decode cX11_rest 5 = .ok (.invokevirtual 122, 3) := by decide +kernel
theorem dX11_rest_8 : decode cX11_rest 8 = .ok (.ifCond .ne 6, 3) := by decide +kernel
theorem dX11_rest_11 : decode cX11_rest 11 = .ok (.bipush (-2), 2) := by decide +kernel
theorem dX11_rest_13 : decode cX11_rest 13 = .ok (.ireturn, 1) := by decide +kernel
theorem dX11_risk_0 : decode cX11_risk 0 = .ok (.aload_n 0, 1) := by decide +kernel
theorem dX11_risk_1 : decode cX11_risk 1 = .ok (.getfield 19, 3) := by decide +kernel
theorem dX11_risk_4 : decode cX11_risk 4 = .ok (.iload_n 1, 1) := by decide +kernel
theorem dX11_risk_5 : decode cX11_risk 5 = .ok (.invokevirtual 122, 3) := by decide +kernel
theorem dX11_risk_8 : decode cX11_risk 8 = .ok (.ifCond .ne 6, 3) := by decide +kernel
theorem dX11_risk_11 : decode cX11_risk 11 = .ok (.bipush (-2), 2) := by decide +kernel
theorem dX11_risk_13 : decode cX11_risk 13 = .ok (.ireturn, 1) := by decide +kernel
theorem dX11_shames_0 : decode cX11_shames 0 = .ok (.aload_n 0, 1) := by decide +kernel
theorem dX11_shames_1 : decode cX11_shames 1 = .ok (.iload_n 1, 1) := by decide +kernel
theorem dX11_shames_2 : decode cX11_shames 2 = .ok (.invokevirtual 183, 3) := by decide +kernel
theorem dX11_shames_5 : decode cX11_shames 5 = .ok (.istore_n 2, 1) := by decide +kernel
theorem dX11_shames_6 : decode cX11_shames 6 = .ok (.iload_n 2, 1) := by decide +kernel
theorem dX11_shames_7 : decode cX11_shames 7 = .ok (.ifCond .ge 7, 3) := by decide +kernel
theorem dX11_shames_10 : decode cX11_shames 10 = .ok (.iload_n 2, 1) := by decide +kernel
theorem dX11_shames_11 : decode cX11_shames 11 = .ok (.goto 14, 3) := by decide +kernel
theorem dX11_shames_25 : decode cX11_shames 25 = .ok (.ireturn, 1) := by decide +kernel
theorem dX11_shock_0 : decode cX11_shock 0 = .ok (.aload_n 0, 1) := by decide +kernel
theorem dX11_shock_1 : decode cX11_shock 1 = .ok (.getfield 19, 3) := by decide +kernel
theorem dX11_shock_4 : decode cX11_shock 4 = .ok (.iload_n 1, 1) := by decide +kernel
theorem dX11_shock_5 : decode cX11_shock 5 = .ok (.invokevirtual 122, 3) := by decide +kernel
theorem dX11_shock_8 : decode cX11_shock 8 = .ok (.ifCond .ne 6, 3) := by decide +kernel
theorem dX11_shock_11 : decode cX11_shock 11 = .ok (.bipush (-2), 2) := by decide +kernel
theorem dX11_shock_13 : decode cX11_shock 13 = .ok (.ireturn, 1) := by decide +kernel
theorem dX11_softer_0 : decode cX11_softer 0 = .ok (.aload_n 0, 1) := by decide +kernel
theorem dX11_softer_1 : decode cX11_softer 1 = .ok (.iload_n 1, 1) := by decide +kernel
theorem dX11_softer_2 : decode cX11_softer 2 = .ok (.iload_n 2, 1) := by decide +kernel
theorem dX11_softer_3 : decode cX11_softer 3 = .ok (.invokevirtual 216, 3) := by decide +kernel
theorem dX11_softer_6 : decode cX11_softer 6 = .ok (.istore_n 3, 1) := by decide +kernel
theorem dX11_softer_7 : decode cX11_softer 7 = .ok (.iload_n 3, 1) := by decide +kernel
theorem dX11_softer_8 : decode cX11_softer 8 = .ok (.ifCond .ge 7, 3) := by decide +kernel
theorem dX11_softer_11 : decode cX11_softer 11 = .ok (.iload_n 3, 1) := by decide +kernel
theorem dX11_softer_12 : decode cX11_softer 12 = .ok (.goto 10, 3) := by decide +kernel
theorem dX11_softer_22 : decode cX11_softer 22 = .ok (.ireturn, 1) := by decide +kernel
theorem dX11_softest_0 : decode cX11_softest 0 = .ok (.aload_n 0, 1) := by decide +kernel
theorem dX11_softest_1 : decode cX11_softest 1 = .ok (.getfield 19, 3) := by decide +kernel
theorem dX11_softest_4 : decode cX11_softest 4 = .ok (.iload_n 1, 1) := by decide +kernel
theorem dX11_softest_5 : decode cX11_softest 5 = .ok (.invokevirtual 122, 3) := by decide +kernel
theorem dX11_softest_8 : decode cX11_softest 8 = .ok (.ifCond .eq 14, 3) := by decide +kernel
theorem dX11_softest_22 : decode cX11_softest 22 = .ok (.bipush (-2), 2) := by decide +kernel
theorem dX11_softest_24 : decode cX11_softest 24 = .ok (.ireturn, 1) := by decide +kernel
theorem dX11_soon_0 : decode cX11_soon 0 = .ok (.aload_n 0, 1) := by decide +kernel
theorem dX11_soon_1 : decode cX11_soon 1 = .ok (.getfield 19, 3) := by decide +kernel
theorem dX11_soon_4 : decode cX11_soon 4 = .ok (.iload_n 1, 1) := by decide +kernel
theorem dX11_soon_5 : decode cX11_soon 5 = .ok (.invokevirtual 122, 3) := by decide +kernel
theorem dX11_soon_8 : decode cX11_soon 8 = .ok (.ifCond .eq 12, 3) := by decide +kernel
theorem dX11_soon_20 : decode cX11_soon 20 = .ok (.bipush (-2), 2) := by decide +kernel
theorem dX11_soon_22 : decode cX11_soon 22 = .ok (.ireturn, 1) := by decide +kernel
theorem dX11_step_0 : decode cX11_step 0 = .ok (.aload_n 0, 1) := by decide +kernel
theorem dX11_step_1 : decode cX11_step 1 = .ok (.iload_n 1, 1) := by decide +kernel
theorem dX11_step_2 : decode cX11_step 2 = .ok (.iload_n 2, 1) := by decide +kernel
theorem dX11_step_3 : decode cX11_step 3 = .ok (.iconst 0, 1) := by decide +kernel
theorem dX11_step_4 : decode cX11_step 4 = .ok (.iconst 0, 1) := by decide +kernel
theorem dX11_step_5 : decode cX11_step 5 = .ok (.invokevirtual 241, 3) := by decide +kernel
theorem dX11_step_8 : decode cX11_step 8 = .ok (.ireturn, 1) := by decide +kernel
theorem dX11_suspects_0 : decode cX11_suspects 0 = .ok (.aload_n 0, 1) := by decide +kernel
theorem dX11_suspects_1 : decode cX11_suspects 1 = .ok (.iload_n 1, 1) := by decide +kernel
theorem dX11_suspects_2 : decode cX11_suspects 2 = .ok (.invokevirtual 183, 3) := by decide +kernel
theorem dX11_suspects_5 : decode cX11_suspects 5 = .ok (.istore_n 2, 1) := by decide +kernel
theorem dX11_suspects_6 : decode cX11_suspects 6 = .ok (.iload_n 2, 1) := by decide +kernel
theorem dX11_suspects_7 : decode cX11_suspects 7 = .ok (.ifCond .ge 5, 3) := by decide +kernel
theorem dX11_suspects_10 : decode cX11_suspects 10 = .ok (.iload_n 2, 1) := by decide +kernel
theorem dX11_suspects_11 : decode cX11_suspects 11 = .ok (.ireturn, 1) := by decide +kernel
theorem dX11_takeWeek_0 : decode cX11_takeWeek 0 = .ok (.iload_n 1, 1) := by decide +kernel
theorem dX11_takeWeek_1 : decode cX11_takeWeek 1 = .ok (.invokestatic 398, 3) := by decide +kernel
theorem dX11_takeWeek_4 : decode cX11_takeWeek 4 = .ok (.ifCond .eq 13, 3) := by decide +kernel
theorem dX11_takeWeek_7 : decode cX11_takeWeek 7 = .ok (.aload_n 0, 1) := by decide +kernel
theorem dX11_takeWeek_8 : decode cX11_takeWeek 8 = .ok (.getfield 19, 3) := by decide +kernel
theorem dX11_takeWeek_11 : decode cX11_takeWeek 11 = .ok (.invokevirtual 245, 3) := by decide +kernel
theorem dX11_takeWeek_14 : decode cX11_takeWeek 14 = .ok (.ifCond .ne 6, 3) := by decide +kernel
theorem dX11_takeWeek_17 : decode cX11_takeWeek 17 = .ok (.bipush (-2), 2) := by decide +kernel
theorem dX11_takeWeek_19 : decode cX11_takeWeek 19 = .ok (.ireturn, 1) := by decide +kernel
theorem dX11_tells_0 : decode cX11_tells 0 = .ok (.aload_n 0, 1) := by decide +kernel
theorem dX11_tells_1 : decode cX11_tells 1 = .ok (.getfield 19, 3) := by decide +kernel
theorem dX11_tells_4 : decode cX11_tells 4 = .ok (.iload_n 1, 1) := by decide +kernel
theorem dX11_tells_5 : decode cX11_tells 5 = .ok (.invokevirtual 122, 3) := by decide +kernel
theorem dX11_tells_8 : decode cX11_tells 8 = .ok (.ifCond .eq 15, 3) := by decide +kernel
theorem dX11_tells_23 : decode cX11_tells 23 = .ok (.bipush (-2), 2) := by decide +kernel
theorem dX11_tells_25 : decode cX11_tells 25 = .ok (.ireturn, 1) := by decide +kernel
theorem dX11_tender_0 : decode cX11_tender 0 = .ok (.aload_n 0, 1) := by decide +kernel
theorem dX11_tender_1 : decode cX11_tender 1 = .ok (.getfield 19, 3) := by decide +kernel
theorem dX11_tender_4 : decode cX11_tender 4 = .ok (.iload_n 1, 1) := by decide +kernel
theorem dX11_tender_5 : decode cX11_tender 5 = .ok (.invokevirtual 122, 3) := by decide +kernel
theorem dX11_tender_8 : decode cX11_tender 8 = .ok (.ifCond .eq 13, 3) := by decide +kernel
theorem dX11_tender_21 : decode cX11_tender 21 = .ok (.bipush (-2), 2) := by decide +kernel
theorem dX11_tender_23 : decode cX11_tender 23 = .ok (.ireturn, 1) := by decide +kernel
theorem dX11_tenderly_0 : decode cX11_tenderly 0 = .ok (.aload_n 0, 1) := by decide +kernel
theorem dX11_tenderly_1 : decode cX11_tenderly 1 = .ok (.iload_n 1, 1) := by decide +kernel
theorem dX11_tenderly_2 : decode cX11_tenderly 2 = .ok (.iload_n 2, 1) := by decide +kernel
theorem dX11_tenderly_3 : decode cX11_tenderly 3 = .ok (.iconst 1, 1) := by decide +kernel
theorem dX11_tenderly_4 : decode cX11_tenderly 4 = .ok (.iconst 1, 1) := by decide +kernel
theorem dX11_tenderly_5 : decode cX11_tenderly 5 = .ok (.invokevirtual 241, 3) := by decide +kernel
theorem dX11_tenderly_8 : decode cX11_tenderly 8 = .ok (.ireturn, 1) := by decide +kernel
theorem dX11_thinks_0 : decode cX11_thinks 0 = .ok (.aload_n 0, 1) := by decide +kernel
theorem dX11_thinks_1 : decode cX11_thinks 1 = .ok (.getfield 19, 3) := by decide +kernel
theorem dX11_thinks_4 : decode cX11_thinks 4 = .ok (.iload_n 1, 1) := by decide +kernel
theorem dX11_thinks_5 : decode cX11_thinks 5 = .ok (.invokevirtual 122, 3) := by decide +kernel
theorem dX11_thinks_8 : decode cX11_thinks 8 = .ok (.ifCond .ne 6, 3) := by decide +kernel
theorem dX11_thinks_11 : decode cX11_thinks 11 = .ok (.bipush (-2), 2) := by decide +kernel
theorem dX11_thinks_13 : decode cX11_thinks 13 = .ok (.ireturn, 1) := by decide +kernel
theorem dX11_truly_0 : decode cX11_truly 0 = .ok (.aload_n 0, 1) := by decide +kernel
theorem dX11_truly_1 : decode cX11_truly 1 = .ok (.getfield 19, 3) := by decide +kernel
theorem dX11_truly_4 : decode cX11_truly 4 = .ok (.iload_n 1, 1) := by decide +kernel
theorem dX11_truly_5 : decode cX11_truly 5 = .ok (.invokevirtual 122, 3) := by decide +kernel
theorem dX11_truly_8 : decode cX11_truly 8 = .ok (.ifCond .eq 13, 3) := by decide +kernel
theorem dX11_truly_21 : decode cX11_truly 21 = .ok (.bipush (-2), 2) := by decide +kernel
theorem dX11_truly_23 : decode cX11_truly 23 = .ok (.ireturn, 1) := by decide +kernel
theorem dX11_undo_0 : decode cX11_undo 0 = .ok (.aload_n 0, 1) := by decide +kernel
theorem dX11_undo_1 : decode cX11_undo 1 = .ok (.getfield 19, 3) := by decide +kernel
theorem dX11_undo_4 : decode cX11_undo 4 = .ok (.invokevirtual 245, 3) := by decide +kernel
theorem dX11_undo_7 : decode cX11_undo 7 = .ok (.ifCond .ne 6, 3) := by decide +kernel
theorem dX11_undo_10 : decode cX11_undo 10 = .ok (.bipush (-2), 2) := by decide +kernel
theorem dX11_undo_12 : decode cX11_undo 12 = .ok (.ireturn, 1) := by decide +kernel
theorem dX11_unsaid_0 : decode cX11_unsaid 0 = .ok (.aload_n 0, 1) := by decide +kernel
theorem dX11_unsaid_1 : decode cX11_unsaid 1 = .ok (.getfield 19, 3) := by decide +kernel
theorem dX11_unsaid_4 : decode cX11_unsaid 4 = .ok (.invokevirtual 245, 3) := by decide +kernel
theorem dX11_unsaid_7 : decode cX11_unsaid 7 = .ok (.ifCond .ne 6, 3) := by decide +kernel
theorem dX11_unsaid_10 : decode cX11_unsaid 10 = .ok (.bipush (-2), 2) := by decide +kernel
theorem dX11_unsaid_12 : decode cX11_unsaid 12 = .ok (.ireturn, 1) := by decide +kernel
theorem dX11_whom_0 : decode cX11_whom 0 = .ok (.aload_n 0, 1) := by decide +kernel
theorem dX11_whom_1 : decode cX11_whom 1 = .ok (.getfield 19, 3) := by decide +kernel
theorem dX11_whom_4 : decode cX11_whom 4 = .ok (.invokevirtual 245, 3) := by decide +kernel
theorem dX11_whom_7 : decode cX11_whom 7 = .ok (.ifCond .eq 16, 3) := by decide +kernel
theorem dX11_whom_23 : decode cX11_whom 23 = .ok (.bipush (-2), 2) := by decide +kernel
theorem dX11_whom_25 : decode cX11_whom 25 = .ok (.ireturn, 1) := by decide +kernel
theorem dX11_word_0 : decode cX11_word 0 = .ok (.aload_n 0, 1) := by decide +kernel
theorem dX11_word_1 : decode cX11_word 1 = .ok (.getfield 19, 3) := by decide +kernel
theorem dX11_word_4 : decode cX11_word 4 = .ok (.iload_n 1, 1) := by decide +kernel
theorem dX11_word_5 : decode cX11_word 5 = .ok (.invokevirtual 132, 3) := by decide +kernel
theorem dX11_word_8 : decode cX11_word 8 = .ok (.ifCond .ne 6, 3) := by decide +kernel
theorem dX11_word_11 : decode cX11_word 11 = .ok (.bipush (-2), 2) := by decide +kernel
theorem dX11_word_13 : decode cX11_word 13 = .ok (.ireturn, 1) := by decide +kernel
theorem dX11_wordOfBest_0 : decode cX11_wordOfBest 0 = .ok (.aload_n 0, 1) := by decide +kernel
theorem dX11_wordOfBest_1 : decode cX11_wordOfBest 1 = .ok (.getfield 19, 3) := by decide +kernel
theorem dX11_wordOfBest_4 : decode cX11_wordOfBest 4 = .ok (.iload_n 1, 1) := by decide +kernel
theorem dX11_wordOfBest_5 : decode cX11_wordOfBest 5 = .ok (.invokevirtual 122, 3) := by decide +kernel
theorem dX11_wordOfBest_8 : decode cX11_wordOfBest 8 = .ok (.ifCond .eq 14, 3) := by decide +kernel
theorem dX11_wordOfBest_22 : decode cX11_wordOfBest 22 = .ok (.bipush (-2), 2) := by decide +kernel
theorem dX11_wordOfBest_24 : decode cX11_wordOfBest 24 = .ok (.ireturn, 1) := by decide +kernel
theorem dX11_worsen_0 : decode cX11_worsen 0 = .ok (.aload_n 0, 1) := by decide +kernel
theorem dX11_worsen_1 : decode cX11_worsen 1 = .ok (.getfield 19, 3) := by decide +kernel
theorem dX11_worsen_4 : decode cX11_worsen 4 = .ok (.iload_n 1, 1) := by decide +kernel
theorem dX11_worsen_5 : decode cX11_worsen 5 = .ok (.invokevirtual 114, 3) := by decide +kernel
theorem dX11_worsen_8 : decode cX11_worsen 8 = .ok (.ifCond .eq 13, 3) := by decide +kernel
theorem dX11_worsen_21 : decode cX11_worsen 21 = .ok (.bipush (-2), 2) := by decide +kernel
theorem dX11_worsen_23 : decode cX11_worsen 23 = .ok (.ireturn, 1) := by decide +kernel
theorem dX11_worst_0 : decode cX11_worst 0 = .ok (.aload_n 0, 1) := by decide +kernel
theorem dX11_worst_1 : decode cX11_worst 1 = .ok (.iload_n 1, 1) := by decide +kernel
theorem dX11_worst_2 : decode cX11_worst 2 = .ok (.iload_n 2, 1) := by decide +kernel
theorem dX11_worst_3 : decode cX11_worst 3 = .ok (.invokevirtual 191, 3) := by decide +kernel
theorem dX11_worst_6 : decode cX11_worst 6 = .ok (.istore_n 3, 1) := by decide +kernel
theorem dX11_worst_7 : decode cX11_worst 7 = .ok (.iload_n 3, 1) := by decide +kernel
theorem dX11_worst_8 : decode cX11_worst 8 = .ok (.ifCond .ge 7, 3) := by decide +kernel
theorem dX11_worst_11 : decode cX11_worst 11 = .ok (.iload_n 3, 1) := by decide +kernel
theorem dX11_worst_12 : decode cX11_worst 12 = .ok (.goto 10, 3) := by decide +kernel
theorem dX11_worst_22 : decode cX11_worst 22 = .ok (.ireturn, 1) := by decide +kernel
