theorem b_1097 : Cond.constantLong RX12 421 (99) ∈ BIG := bi (tin_9 _ (List.mem_of_getElem? (i := 50) rfl)) rfl
theorem b_1098 : Cond.methodLink RX12 423 yX12_change ∈ BIG := bi (tin_9 _ (List.mem_of_getElem? (i := 51) rfl)) rfl
theorem b_1099 : Cond.code yX12_change cX12_change 4 (some .int) ∈ BIG := bi (tin_9 _ (List.mem_of_getElem? (i := 54) rfl)) rfl
theorem b_1100 : Cond.instanceMethod yX12_change ∈ BIG := bi (tin_9 _ (List.mem_of_getElem? (i := 53) rfl)) rfl
theorem b_1101 : Cond.selects RX12 yX12_change yX12_change ∈ BIG := bi (sin_11 _ (List.mem_map.mpr ⟨(yX12_change, 29), List.mem_of_getElem? (i := 10) rfl, rfl⟩)) rfl
theorem m_yX12_change : MV yX12_change cX12_change 4 (some .int) 2 := ⟨b_1099, b_1100, b_1101, b_810, by decide +kernel⟩
theorem dX12_change_0 : decode cX12_change 0 = .ok (.aload_n 0, 1) := by decide +kernel
theorem dX12_change_1 : decode cX12_change 1 = .ok (.getfield 9, 3) := by decide +kernel
theorem dX12_change_4 : decode cX12_change 4 = .ok (.bipush 10, 2) := by decide +kernel
theorem dX12_change_6 : decode cX12_change 6 = .ok (.iaload, 1) := by decide +kernel
theorem dX12_change_7 : decode cX12_change 7 = .ok (.bipush 60, 2) := by decide +kernel
theorem dX12_change_9 : decode cX12_change 9 = .ok (.if_icmp .ne 6, 3) := by decide +kernel
theorem dX12_change_12 : decode cX12_change 12 = .ok (.bipush (-5), 2) := by decide +kernel
theorem dX12_change_14 : decode cX12_change 14 = .ok (.ireturn, 1) := by decide +kernel
theorem dX12_change_15 : decode cX12_change 15 = .ok (.aload_n 0, 1) := by decide +kernel
theorem dX12_change_16 : decode cX12_change 16 = .ok (.getfield 9, 3) := by decide +kernel
theorem dX12_change_19 : decode cX12_change 19 = .ok (.iload_n 1, 1) := by decide +kernel
theorem dX12_change_20 : decode cX12_change 20 = .ok (.iaload, 1) := by decide +kernel
theorem dX12_change_21 : decode cX12_change 21 = .ok (.istore_n 3, 1) := by decide +kernel
theorem dX12_change_22 : decode cX12_change 22 = .ok (.aload_n 0, 1) := by decide +kernel
theorem dX12_change_23 : decode cX12_change 23 = .ok (.getfield 9, 3) := by decide +kernel
theorem dX12_change_26 : decode cX12_change 26 = .ok (.bipush 105, 2) := by decide +kernel
theorem dX12_change_28 : decode cX12_change 28 = .ok (.iconst 2, 1) := by decide +kernel
theorem dX12_change_29 : decode cX12_change 29 = .ok (.aload_n 0, 1) := by decide +kernel
theorem dX12_change_30 : decode cX12_change 30 = .ok (.getfield 9, 3) := by decide +kernel
theorem dX12_change_33 : decode cX12_change 33 = .ok (.bipush 10, 2) := by decide +kernel
theorem dX12_change_35 : decode cX12_change 35 = .ok (.iaload, 1) := by decide +kernel
theorem dX12_change_36 : decode cX12_change 36 = .ok (.imul, 1) := by decide +kernel
theorem dX12_change_37 : decode cX12_change 37 = .ok (.iadd, 1) := by decide +kernel
theorem dX12_change_38 : decode cX12_change 38 = .ok (.iload_n 1, 1) := by decide +kernel
theorem dX12_change_39 : decode cX12_change 39 = .ok (.iastore, 1) := by decide +kernel
theorem dX12_change_40 : decode cX12_change 40 = .ok (.aload_n 0, 1) := by decide +kernel
theorem dX12_change_41 : decode cX12_change 41 = .ok (.getfield 9, 3) := by decide +kernel
theorem dX12_change_44 : decode cX12_change 44 = .ok (.bipush 105, 2) := by decide +kernel
theorem dX12_change_46 : decode cX12_change 46 = .ok (.iconst 2, 1) := by decide +kernel
theorem dX12_change_47 : decode cX12_change 47 = .ok (.aload_n 0, 1) := by decide +kernel
theorem dX12_change_48 : decode cX12_change 48 = .ok (.getfield 9, 3) := by decide +kernel
theorem dX12_change_51 : decode cX12_change 51 = .ok (.bipush 10, 2) := by decide +kernel
theorem dX12_change_53 : decode cX12_change 53 = .ok (.iaload, 1) := by decide +kernel
theorem dX12_change_54 : decode cX12_change 54 = .ok (.imul, 1) := by decide +kernel
theorem dX12_change_55 : decode cX12_change 55 = .ok (.iadd, 1) := by decide +kernel
theorem dX12_change_56 : decode cX12_change 56 = .ok (.iconst 1, 1) := by decide +kernel
theorem dX12_change_57 : decode cX12_change 57 = .ok (.iadd, 1) := by decide +kernel
theorem dX12_change_58 : decode cX12_change 58 = .ok (.iload_n 3, 1) := by decide +kernel
theorem dX12_change_59 : decode cX12_change 59 = .ok (.iastore, 1) := by decide +kernel
theorem dX12_change_60 : decode cX12_change 60 = .ok (.aload_n 0, 1) := by decide +kernel
theorem dX12_change_61 : decode cX12_change 61 = .ok (.getfield 9, 3) := by decide +kernel
theorem dX12_change_64 : decode cX12_change 64 = .ok (.bipush 10, 2) := by decide +kernel
theorem dX12_change_66 : decode cX12_change 66 = .ok (.dup2, 1) := by decide +kernel
theorem dX12_change_67 : decode cX12_change 67 = .ok (.iaload, 1) := by decide +kernel
theorem dX12_change_68 : decode cX12_change 68 = .ok (.iconst 1, 1) := by decide +kernel
theorem dX12_change_69 : decode cX12_change 69 = .ok (.iadd, 1) := by decide +kernel
theorem dX12_change_70 : decode cX12_change 70 = .ok (.iastore, 1) := by decide +kernel
theorem dX12_change_71 : decode cX12_change 71 = .ok (.aload_n 0, 1) := by decide +kernel
theorem dX12_change_72 : decode cX12_change 72 = .ok (.getfield 9, 3) := by decide +kernel
theorem dX12_change_75 : decode cX12_change 75 = .ok (.iload_n 1, 1) := by decide +kernel
theorem dX12_change_76 : decode cX12_change 76 = .ok (.iload_n 2, 1) := by decide +kernel
theorem dX12_change_77 : decode cX12_change 77 = .ok (.iastore, 1) := by decide +kernel
theorem dX12_change_78 : decode cX12_change 78 = .ok (.iload_n 3, 1) := by decide +kernel
theorem dX12_change_79 : decode cX12_change 79 = .ok (.ireturn, 1) := by decide +kernel
theorem dX12_doubt_0 : decode cX12_doubt 0 = .ok (.aload_n 0, 1) := by decide +kernel
theorem dX12_doubt_1 : decode cX12_doubt 1 = .ok (.iload_n 1, 1) := by decide +kernel
theorem dX12_doubt_2 : decode cX12_doubt 2 = .ok (.invokevirtual 258, 3) := by decide +kernel
theorem dX12_doubt_5 : decode cX12_doubt 5 = .ok (.ifCond .eq 40, 3) := by decide +kernel
theorem dX12_doubt_8 : decode cX12_doubt 8 = .ok (.aload_n 0, 1) := by decide +kernel
theorem dX12_doubt_9 : decode cX12_doubt 9 = .ok (.iload_n 2, 1) := by decide +kernel
theorem dX12_doubt_10 : decode cX12_doubt 10 = .ok (.invokevirtual 255, 3) := by decide +kernel
theorem dX12_doubt_13 : decode cX12_doubt 13 = .ok (.ifCond .eq 32, 3) := by decide +kernel
theorem dX12_doubt_16 : decode cX12_doubt 16 = .ok (.iload_n 3, 1) := by decide +kernel
theorem dX12_doubt_17 : decode cX12_doubt 17 = .ok (.i2l, 1) := by decide +kernel
theorem dX12_doubt_18 : decode cX12_doubt 18 = .ok (.lconst 0, 1) := by decide +kernel
theorem dX12_doubt_19 : decode cX12_doubt 19 = .ok (.ldc2_w 426, 3) := by decide +kernel
theorem dX12_doubt_22 : decode cX12_doubt 22 = .ok (.invokestatic 67, 3) := by decide +kernel
theorem dX12_doubt_25 : decode cX12_doubt 25 = .ok (.ifCond .eq 20, 3) := by decide +kernel
theorem dX12_doubt_28 : decode cX12_doubt 28 = .ok (.aload_n 0, 1) := by decide +kernel
theorem dX12_doubt_29 : decode cX12_doubt 29 = .ok (.bipush 19, 2) := by decide +kernel
theorem dX12_doubt_31 : decode cX12_doubt 31 = .ok (.bipush 9, 2) := by decide +kernel
theorem dX12_doubt_33 : decode cX12_doubt 33 = .ok (.iload_n 1, 1) := by decide +kernel
theorem dX12_doubt_34 : decode cX12_doubt 34 = .ok (.imul, 1) := by decide +kernel
theorem dX12_doubt_35 : decode cX12_doubt 35 = .ok (.iadd, 1) := by decide +kernel
theorem dX12_doubt_36 : decode cX12_doubt 36 = .ok (.iload_n 2, 1) := by decide +kernel
theorem dX12_doubt_37 : decode cX12_doubt 37 = .ok (.iadd, 1) := by decide +kernel
theorem dX12_doubt_38 : decode cX12_doubt 38 = .ok (.iload_n 3, 1) := by decide +kernel
theorem dX12_doubt_39 : decode cX12_doubt 39 = .ok (.invokevirtual 423, 3) := by decide +kernel
theorem dX12_doubt_42 : decode cX12_doubt 42 = .ok (.goto 5, 3) := by decide +kernel
theorem dX12_doubt_45 : decode cX12_doubt 45 = .ok (.bipush (-2), 2) := by decide +kernel
theorem dX12_doubt_47 : decode cX12_doubt 47 = .ok (.ireturn, 1) := by decide +kernel
theorem dX12_really_0 : decode cX12_really 0 = .ok (.aload_n 0, 1) := by decide +kernel
theorem dX12_really_1 : decode cX12_really 1 = .ok (.iload_n 1, 1) := by decide +kernel
theorem dX12_really_2 : decode cX12_really 2 = .ok (.invokevirtual 255, 3) := by decide +kernel
theorem dX12_really_5 : decode cX12_really 5 = .ok (.ifCond .eq 12, 3) := by decide +kernel
theorem dX12_really_8 : decode cX12_really 8 = .ok (.aload_n 0, 1) := by decide +kernel
theorem dX12_really_9 : decode cX12_really 9 = .ok (.iconst 1, 1) := by decide +kernel
theorem dX12_really_10 : decode cX12_really 10 = .ok (.iload_n 1, 1) := by decide +kernel
theorem dX12_really_11 : decode cX12_really 11 = .ok (.invokevirtual 423, 3) := by decide +kernel
theorem dX12_really_14 : decode cX12_really 14 = .ok (.goto 5, 3) := by decide +kernel
theorem dX12_really_17 : decode cX12_really 17 = .ok (.bipush (-2), 2) := by decide +kernel
theorem dX12_really_19 : decode cX12_really 19 = .ok (.ireturn, 1) := by decide +kernel
theorem dX12_undo_0 : decode cX12_undo 0 = .ok (.aload_n 0, 1) := by decide +kernel
theorem dX12_undo_1 : decode cX12_undo 1 = .ok (.invokevirtual 77, 3) := by decide +kernel
theorem dX12_undo_4 : decode cX12_undo 4 = .ok (.ifCond .ne 6, 3) := by decide +kernel
theorem dX12_undo_7 : decode cX12_undo 7 = .ok (.bipush (-2), 2) := by decide +kernel
theorem dX12_undo_9 : decode cX12_undo 9 = .ok (.ireturn, 1) := by decide +kernel
theorem dX12_undo_10 : decode cX12_undo 10 = .ok (.aload_n 0, 1) := by decide +kernel
theorem dX12_undo_11 : decode cX12_undo 11 = .ok (.getfield 9, 3) := by decide +kernel
theorem dX12_undo_14 : decode cX12_undo 14 = .ok (.bipush 10, 2) := by decide +kernel
theorem dX12_undo_16 : decode cX12_undo 16 = .ok (.iaload, 1) := by decide +kernel
theorem dX12_undo_17 : decode cX12_undo 17 = .ok (.ifCond .ne 6, 3) := by decide +kernel
theorem dX12_undo_20 : decode cX12_undo 20 = .ok (.bipush (-5), 2) := by decide +kernel
theorem dX12_undo_22 : decode cX12_undo 22 = .ok (.ireturn, 1) := by decide +kernel
theorem dX12_undo_23 : decode cX12_undo 23 = .ok (.aload_n 0, 1) := by decide +kernel
theorem dX12_undo_24 : decode cX12_undo 24 = .ok (.getfield 9, 3) := by decide +kernel
theorem dX12_undo_27 : decode cX12_undo 27 = .ok (.bipush 10, 2) := by decide +kernel
theorem dX12_undo_29 : decode cX12_undo 29 = .ok (.dup2, 1) := by decide +kernel
theorem dX12_undo_30 : decode cX12_undo 30 = .ok (.iaload, 1) := by decide +kernel
theorem dX12_undo_31 : decode cX12_undo 31 = .ok (.iconst 1, 1) := by decide +kernel
theorem dX12_undo_32 : decode cX12_undo 32 = .ok (.isub, 1) := by decide +kernel
theorem dX12_undo_33 : decode cX12_undo 33 = .ok (.iastore, 1) := by decide +kernel
theorem dX12_undo_34 : decode cX12_undo 34 = .ok (.aload_n 0, 1) := by decide +kernel
theorem dX12_undo_35 : decode cX12_undo 35 = .ok (.getfield 9, 3) := by decide +kernel
theorem dX12_undo_38 : decode cX12_undo 38 = .ok (.aload_n 0, 1) := by decide +kernel
theorem dX12_undo_39 : decode cX12_undo 39 = .ok (.getfield 9, 3) := by decide +kernel
theorem dX12_undo_42 : decode cX12_undo 42 = .ok (.bipush 105, 2) := by decide +kernel
theorem dX12_undo_44 : decode cX12_undo 44 = .ok (.iconst 2, 1) := by decide +kernel
theorem dX12_undo_45 : decode cX12_undo 45 = .ok (.aload_n 0, 1) := by decide +kernel
theorem dX12_undo_46 : decode cX12_undo 46 = .ok (.getfield 9, 3) := by decide +kernel
theorem dX12_undo_49 : decode cX12_undo 49 = .ok (.bipush 10, 2) := by decide +kernel
theorem dX12_undo_51 : decode cX12_undo 51 = .ok (.iaload, 1) := by decide +kernel
theorem dX12_undo_52 : decode cX12_undo 52 = .ok (.imul, 1) := by decide +kernel
theorem dX12_undo_53 : decode cX12_undo 53 = .ok (.iadd, 1) := by decide +kernel
theorem dX12_undo_54 : decode cX12_undo 54 = .ok (.iaload, 1) := by decide +kernel
theorem dX12_undo_55 : decode cX12_undo 55 = .ok (.aload_n 0, 1) := by decide +kernel
theorem dX12_undo_56 : decode cX12_undo 56 = .ok (.getfield 9, 3) := by decide +kernel
theorem dX12_undo_59 : decode cX12_undo 59 = .ok (.bipush 105, 2) := by decide +kernel
theorem dX12_undo_61 : decode cX12_undo 61 = .ok (.iconst 2, 1) := by decide +kernel
theorem dX12_undo_62 : decode cX12_undo 62 = .ok (.aload_n 0, 1) := by decide +kernel
theorem dX12_undo_63 : decode cX12_undo 63 = .ok (.getfield 9, 3) := by decide +kernel
theorem dX12_undo_66 : decode cX12_undo 66 = .ok (.bipush 10, 2) := by decide +kernel
theorem dX12_undo_68 : decode cX12_undo 68 = .ok (.iaload, 1) := by decide +kernel
theorem dX12_undo_69 : decode cX12_undo 69 = .ok (.imul, 1) := by decide +kernel
theorem dX12_undo_70 : decode cX12_undo 70 = .ok (.iadd, 1) := by decide +kernel
theorem dX12_undo_71 : decode cX12_undo 71 = .ok (.iconst 1, 1) := by decide +kernel
theorem dX12_undo_72 : decode cX12_undo 72 = .ok (.iadd, 1) := by decide +kernel
theorem dX12_undo_73 : decode cX12_undo 73 = .ok (.iaload, 1) := by decide +kernel
theorem dX12_undo_74 : decode cX12_undo 74 = .ok (.iastore, 1) := by decide +kernel
theorem dX12_undo_75 : decode cX12_undo 75 = .ok (.aload_n 0, 1) := by decide +kernel
theorem dX12_undo_76 : decode cX12_undo 76 = .ok (.getfield 9, 3) := by decide +kernel
theorem dX12_undo_79 : decode cX12_undo 79 = .ok (.bipush 10, 2) := by decide +kernel
theorem dX12_undo_81 : decode cX12_undo 81 = .ok (.iaload, 1) := by decide +kernel
theorem dX12_undo_82 : decode cX12_undo 82 = .ok (.ireturn, 1) := by decide +kernel
theorem dX12_worsen_0 : decode cX12_worsen 0 = .ok (.aload_n 0, 1) := by decide +kernel
theorem dX12_worsen_1 : decode cX12_worsen 1 = .ok (.iload_n 1, 1) := by decide +kernel
theorem dX12_worsen_2 : decode cX12_worsen 2 = .ok (.invokevirtual 255, 3) := by decide +kernel
theorem dX12_worsen_5 : decode cX12_worsen 5 = .ok (.ifCond .eq 27, 3) := by decide +kernel
theorem dX12_worsen_8 : decode cX12_worsen 8 = .ok (.iload_n 2, 1) := by decide +kernel
theorem dX12_worsen_9 : decode cX12_worsen 9 = .ok (.i2l, 1) := by decide +kernel
theorem dX12_worsen_10 : decode cX12_worsen 10 = .ok (.lconst 0, 1) := by decide +kernel
theorem dX12_worsen_11 : decode cX12_worsen 11 = .ok (.ldc2_w 421, 3) := by decide +kernel
theorem dX12_worsen_14 : decode cX12_worsen 14 = .ok (.invokestatic 67, 3) := by decide +kernel
theorem dX12_worsen_17 : decode cX12_worsen 17 = .ok (.ifCond .eq 15, 3) := by decide +kernel
theorem dX12_worsen_20 : decode cX12_worsen 20 = .ok (.aload_n 0, 1) := by decide +kernel
theorem dX12_worsen_21 : decode cX12_worsen 21 = .ok (.bipush 11, 2) := by decide +kernel
theorem dX12_worsen_23 : decode cX12_worsen 23 = .ok (.iload_n 1, 1) := by decide +kernel
theorem dX12_worsen_24 : decode cX12_worsen 24 = .ok (.iadd, 1) := by decide +kernel
theorem dX12_worsen_25 : decode cX12_worsen 25 = .ok (.iload_n 2, 1) := by decide +kernel
theorem dX12_worsen_26 : decode cX12_worsen 26 = .ok (.invokevirtual 423, 3) := by decide +kernel
theorem dX12_worsen_29 : decode cX12_worsen 29 = .ok (.goto 5, 3) := by decide +kernel
theorem dX12_worsen_32 : decode cX12_worsen 32 = .ok (.bipush (-2), 2) := by decide +kernel
theorem dX12_worsen_34 : decode cX12_worsen 34 = .ok (.ireturn, 1) := by decide +kernel
theorem wx_g {f : Nat → Int32} (h : wok f) {x v : Int32} (h1 : 11 ≤ x.toInt) (h2 : x.toInt ≤ 54) (h3 : 0 ≤ v.toInt ∧ v.toInt ≤ 99) : wok (upd f x.toNatClampNeg v) := by
  have := cln (x := x) (by omega)
  exact wk_ug h ⟨by omega, by omega⟩ h3
theorem wx_f {f : Nat → Int32} (h : wok f) {x v : Int32} (h1 : 0 ≤ x.toInt) (h2 : (54 < x.toInt ∧ x.toInt < 71 ∧ x.toInt % 2 = 1) ∨ (94 < x.toInt ∧ x.toInt < 105)) : wok (upd f x.toNatClampNeg v) := by
  have := cln h1
  exact wk_free h (by omega) (by omega)
theorem wx_o {f : Nat → Int32} (h : wok f) {x v : Int32} (h1 : 56 ≤ x.toInt ∧ x.toInt ≤ 70 ∧ x.toInt % 2 = 0) (h2 : 1 ≤ v.toInt ∧ v.toInt ≤ 255) : wok (upd f x.toNatClampNeg v) := by
  have := cln (x := x) (by omega)
  exact wk_uf h (by omega) h2
theorem wx_x {f : Nat → Int32} (h : wok f) {x v : Int32} (h1 : 105 + 2 * (f 10).toInt ≤ x.toInt) : wok (upd f x.toNatClampNeg v) := by
  have h10 := wk_10 h
  have := cln (x := x) (by omega)
  exact wk_ux h (by omega)
theorem wx_w {f : Nat → Int32} (h : wst f) {x v : Int32} (h1 : 10 ≤ x.toInt ∨ x.toInt = 1) : wst (upd f x.toNatClampNeg v) := by
  have := cln (x := x) (by omega)
  exact wst_u h (by omega)
theorem wx_c {f : Nat → Int32} (h : wod f) {x v : Int32} (h1 : (x.toInt = 1 ∧ 0 ≤ v.toInt ∧ v.toInt ≤ 7) ∨ (11 ≤ x.toInt ∧ x.toInt ≤ 54 ∧ 0 ≤ v.toInt ∧ v.toInt ≤ 99)) : wod (upd f x.toNatClampNeg v) := by
  refine ⟨?_, wx_w h.2 (by omega)⟩
  rcases h1 with q | q
  · rw [ixe (x := x) (n := 1) (by omega)]
    exact wk_uc h.1 (by omega)
  · exact wx_g h.1 (by omega) (by omega) (by omega)
theorem wx_n {f : Nat → Int32} (h : wod f) {v : Int32} (h1 : 0 ≤ v.toInt ∧ v.toInt ≤ 60) (h2 : ∀ k : Nat, k < 60 → (k : Int) < v.toInt → wch (f (105 + 2 * k)) (f (106 + 2 * k))) : wod (upd f 10 v) := ⟨wk_un h.1 h1 h2, wst_u h.2 (by decide)⟩
