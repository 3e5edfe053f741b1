set_option maxRecDepth 100000 in
set_option maxHeartbeats 4000000 in
theorem k_X12_readPlan (l : Launch) (g : GG) (h0 : Nat) (a1 : Nat) (a2 : Nat) (a3 : Nat) (a4 : Nat) (a6 : Nat) (a14 : Nat) (a15 : Nat) (a19 : Nat) (a20 : Nat) (a23 : Nat) (a24 : Nat) (a25 : Nat) (a26 : Nat) (a27 : Nat) (a28 : Nat) (mthrown : Int32) (mtaped : Int32) (msize : Int32) (mat : Int32) (mfrom : Int32) (mtoken : Int32) (mvalue : Int32) (mfaultKind : Int32) (mfaultPlace : Int32) (mgoal : Int32) (mgoalDays : Int32) (mgoalHearer : Int32) (mleastOrder : Int32) (mwordsMany : Int32) (mtape : Nat → Int32) (mfresh : Nat → Int32) (i_mtaped : 0 ≤ mtaped.toInt ∧ mtaped.toInt ≤ 900) (i_msize : 0 ≤ msize.toInt ∧ msize.toInt ≤ 900) (i_mat : 0 ≤ mat.toInt ∧ mat.toInt ≤ 900) (i_mfrom : 0 ≤ mfrom.toInt ∧ mfrom.toInt ≤ 900) (i_mtoken : 0 ≤ mtoken.toInt ∧ mtoken.toInt ≤ 4) (i_mvalue : 0 ≤ mvalue.toInt ∧ mvalue.toInt ≤ 99999) (i_mfaultKind : 0 ≤ mfaultKind.toInt ∧ mfaultKind.toInt ≤ 3) (i_mgoalHearer : 0 ≤ mgoalHearer.toInt ∧ mgoalHearer.toInt ≤ 3) (i_mwordsMany : 0 ≤ mwordsMany.toInt ∧ mwordsMany.toInt ≤ 10) (i_mfresh : wok mfresh) (h7 : (mfresh 7).toInt ≤ 3) : Ct l g yX12_readPlan cX12_readPlan 4 none { frames := 3, cells := 0, slots := 0, locals := 69 } [.ref h0] [(h0, .inr (12, [.int mthrown, .ref a1, .ref a2, .ref a3, .ref a4, .int mtaped, .ref a6, .int msize, .int mat, .int mfrom, .int mtoken, .int mvalue, .int mfaultKind, .int mfaultPlace, .ref a14, .ref a15, .int mgoal, .int mgoalDays, .int mgoalHearer, .ref a19, .ref a20, .int mleastOrder, .int mwordsMany, .ref a23, .ref a24, .ref a25, .ref a26, .ref a27, .ref a28])), (a4, .inl (g.2 1, 900, .inl mtape)), (a14, .inl (g.2 0, 225, .inl mfresh))] (S := (Nat → Int32) × (Nat → Nat → Int32) × (Nat → Nat → Int64)) (fun _ => none) (fun u => (0 ≤ (u.1 1).toInt ∧ (u.1 1).toInt ≤ 900) ∧ (0 ≤ (u.1 2).toInt ∧ (u.1 2).toInt ≤ 900) ∧ (0 ≤ (u.1 3).toInt ∧ (u.1 3).toInt ≤ 4) ∧ (0 ≤ (u.1 4).toInt ∧ (u.1 4).toInt ≤ 99999) ∧ (0 ≤ (u.1 5).toInt ∧ (u.1 5).toInt ≤ 3) ∧ (wok (u.2.1 0)) ∧ (5 * mat.toInt - mtoken.toInt ≤ 5 * (u.1 1).toInt - (u.1 3).toInt) ∧ ((u.1 5).toInt = 0 → mfaultKind.toInt = 0) ∧ (((u.2.1 0) 0).toInt = (mfresh 0).toInt ∧ ((u.2.1 0) 2).toInt = (mfresh 2).toInt)) (fun u => [(h0, .inr (12, [.int mthrown, .ref a1, .ref a2, .ref a3, .ref a4, .int mtaped, .ref a6, .int msize, .int (u.1 1), .int (u.1 2), .int (u.1 3), .int (u.1 4), .int (u.1 5), .int (u.1 6), .ref a14, .ref a15, .int mgoal, .int mgoalDays, .int mgoalHearer, .ref a19, .ref a20, .int mleastOrder, .int mwordsMany, .ref a23, .ref a24, .ref a25, .ref a26, .ref a27, .ref a28])), (a4, .inl (g.2 1, 900, .inl mtape)), (a14, .inl (g.2 0, 225, .inl (u.2.1 0)))]) := by
  refine Ct.of (by decide) (Nat.le_of_ble_eq_true rfl) ?_
  intro p e s m below meth c A ls FX hP hD hS hl
  obtain ⟨FC, hr, hlk, hKn, hA, hnm, hZ⟩ := id FX
  have FC : CallFix p m c cX12_readPlan 4 s _ BIG RX12 := FC
  obtain ⟨hx, hb, hml, hown, hB⟩ := id FC
  have hl : lv_has ls 4 [(0, .ref h0)] := hl
  refine lv_bipush (v := 71) hx hb dX12_readPlan_0 (by decide) ?_
  refine lv_bipush (v := 6) hx hb dX12_readPlan_2 (by decide) ?_
  refine lv_aload_n hx hb dX12_readPlan_4 rfl (lv_at hl 0 rfl) ?_
  refine g_get (C := RX12) (T := TX12) (N := 29) (ci := 12) (v := .ref a14) FC hKn hP i_X12 0 rfl rfl 14 (by decide) b_1132 rfl dX12_readPlan_5 ?_
  refine lv_bipush (v := 7) hx hb dX12_readPlan_8 (by decide) ?_
  refine va_iald hx hb hKn.1 hP 2 0 rfl rfl (by unfold vp_in; decide) dX12_readPlan_10 ?_
  have kc7 : (7 : Int32).toInt = 7 := by decide
  refine lv_topi (fun z1 e_z1 => ?_)
  have t_z1 : 0 ≤ z1.toInt ∧ z1.toInt ≤ 4 := by rw [e_z1]; exact wk_7 i_mfresh
  have q_z1 : z1.toInt = (mfresh 7).toInt := by rw [e_z1]; rfl
  refine lv_imul hx hb dX12_readPlan_11 ?_
  have kc6 : (6 : Int32).toInt = 6 := by decide
  refine lv_topi (fun z2 e_z2 => ?_)
  have t_z2 : z2.toInt = 6 * z1.toInt := by rw [e_z2, fb_mulI (by rw [show (6 : Int32).toInt = 6 by decide]; omega) (by rw [show (6 : Int32).toInt = 6 by decide]; omega), show (6 : Int32).toInt = 6 by decide]
  refine lv_iadd hx hb dX12_readPlan_12 ?_
  have kc71 : (71 : Int32).toInt = 71 := by decide
  refine lv_topi (fun z3 e_z3 => ?_)
  have t_z3 : z3.toInt = ((71 : Int32)).toInt + z2.toInt := by rw [e_z3]; exact fb_addI (by omega) (by omega)
  refine lv_istore_n (lv' := [(1, .int z3), (0, .ref h0)]) hx hb dX12_readPlan_13 rfl hl (by decide) rfl (fun ls hl => ?_)
  refine lv_iconst (v := 0) hx hb dX12_readPlan_14 (by decide) ?_
  refine lv_istore_n (lv' := [(2, .int 0), (1, .int z3), (0, .ref h0)]) hx hb dX12_readPlan_15 rfl hl (by decide) rfl (fun ls hl => ?_)
  have lp129 : ∀ (n131 : Nat) (x114 : Int32) (x115 : Int32) (x116 : Int32) (x117 : Int32) (x118 : Int32) (x119 : Int32) (x120 : Int32) (x121 : Nat → Int32) (H : Heap) (locs : List Loc) (ls : Array Slot), 0 ≤ x114.toInt ∧ x114.toInt ≤ 5 → 0 ≤ x115.toInt ∧ x115.toInt ≤ 900 → 0 ≤ x116.toInt ∧ x116.toInt ≤ 900 → 0 ≤ x117.toInt ∧ x117.toInt ≤ 4 → 0 ≤ x118.toInt ∧ x118.toInt ≤ 99999 → 0 ≤ x119.toInt ∧ x119.toInt ≤ 3 → wok x121 → plw x121 (mfresh 7).toInt.toNat x114.toInt → 5 * mat.toInt - mtoken.toInt ≤ 5 * x115.toInt - x117.toInt → (x119.toInt = 0 → mfaultKind.toInt = 0) → (x121 0).toInt = (mfresh 0).toInt → (x121 2).toInt = (mfresh 2).toInt → (x121 6).toInt = (mfresh 6).toInt → (x121 7).toInt = (mfresh 7).toInt → (5 * (900 - x115.toInt) + x117.toInt).toNat < n131 → va_P g.1 vwCl [(h0, .inr (12, [.int mthrown, .ref a1, .ref a2, .ref a3, .ref a4, .int mtaped, .ref a6, .int msize, .int x115, .int x116, .int x117, .int x118, .int x119, .int x120, .ref a14, .ref a15, .int mgoal, .int mgoalDays, .int mgoalHearer, .ref a19, .ref a20, .int mleastOrder, .int mwordsMany, .ref a23, .ref a24, .ref a25, .ref a26, .ref a27, .ref a28])), (a4, .inl (g.2 1, 900, .inl mtape)), (a14, .inl (g.2 0, 225, .inl x121))] H → va_D A [(h0, .inr (12, [.int mthrown, .ref a1, .ref a2, .ref a3, .ref a4, .int mtaped, .ref a6, .int msize, .int x115, .int x116, .int x117, .int x118, .int x119, .int x120, .ref a14, .ref a15, .int mgoal, .int mgoalDays, .int mgoalHearer, .ref a19, .ref a20, .int mleastOrder, .int mwordsMany, .ref a23, .ref a24, .ref a25, .ref a26, .ref a27, .ref a28])), (a4, .inl (g.2 1, 900, .inl mtape)), (a14, .inl (g.2 0, 225, .inl x121))] → va_S A s.heap H locs → lv_has ls 4 [(2, .int x114), (1, .int z3), (0, .ref h0)] → W p l e { frames := 3, cells := 0, slots := 0, locals := 69 } s m ([.ref h0].toArray) below meth c H locs 0 0 (MQ below (QX (S := (Nat → Int32) × (Nat → Nat → Int32) × (Nat → Nat → Int64)) (fun _ => none) (fun u => (0 ≤ (u.1 1).toInt ∧ (u.1 1).toInt ≤ 900) ∧ (0 ≤ (u.1 2).toInt ∧ (u.1 2).toInt ≤ 900) ∧ (0 ≤ (u.1 3).toInt ∧ (u.1 3).toInt ≤ 4) ∧ (0 ≤ (u.1 4).toInt ∧ (u.1 4).toInt ≤ 99999) ∧ (0 ≤ (u.1 5).toInt ∧ (u.1 5).toInt ≤ 3) ∧ (wok (u.2.1 0)) ∧ (5 * mat.toInt - mtoken.toInt ≤ 5 * (u.1 1).toInt - (u.1 3).toInt) ∧ ((u.1 5).toInt = 0 → mfaultKind.toInt = 0) ∧ (((u.2.1 0) 0).toInt = (mfresh 0).toInt ∧ ((u.2.1 0) 2).toInt = (mfresh 2).toInt)) g (fun u => [(h0, .inr (12, [.int mthrown, .ref a1, .ref a2, .ref a3, .ref a4, .int mtaped, .ref a6, .int msize, .int (u.1 1), .int (u.1 2), .int (u.1 3), .int (u.1 4), .int (u.1 5), .int (u.1 6), .ref a14, .ref a15, .int mgoal, .int mgoalDays, .int mgoalHearer, .ref a19, .ref a20, .int mleastOrder, .int mwordsMany, .ref a23, .ref a24, .ref a25, .ref a26, .ref a27, .ref a28])), (a4, .inl (g.2 1, 900, .inl mtape)), (a14, .inl (g.2 0, 225, .inl (u.2.1 0)))]) A) ([.ref h0].toArray) s 0 0 A) (F0 m 16 ls []) := by
    intro n131
    induction n131 with
    | zero =>
      intro x114 x115 x116 x117 x118 x119 x120 x121 H locs ls h_x114 h_x115 h_x116 h_x117 h_x118 h_x119 h_x121 hi122 hi123 hi124 hi125 hi126 hi127 hi128 hn132
      exact absurd hn132 (Nat.not_lt_zero _)
    | succ n131 ih130 =>
      intro x114 x115 x116 x117 x118 x119 x120 x121 H locs ls h_x114 h_x115 h_x116 h_x117 h_x118 h_x119 h_x121 hi122 hi123 hi124 hi125 hi126 hi127 hi128 hn132 hP hD hS hl
      refine lv_iload_n hx hb dX12_readPlan_16 rfl (lv_at hl 0 rfl) ?_
      refine lv_iconst (v := 5) hx hb dX12_readPlan_17 (by decide) ?_
      refine lv_icmp_ne (tgt := 55) hx hb dX12_readPlan_18 (by decide) (fun c133 => ?_) (fun c133 => ?_)
      · have c133 := k_ne (a := x114.toInt) (b := 5) rfl (by decide) c133
        refine lv_aload_n hx hb dX12_readPlan_55 rfl (lv_at hl 2 rfl) ?_
        refine lv_iconst (v := 0) hx hb dX12_readPlan_56 (by decide) ?_
        refine lv_aload_n hx hb dX12_readPlan_57 rfl (lv_at hl 2 rfl) ?_
        refine g_get (C := RX12) (T := TX12) (N := 29) (ci := 12) (v := .ref a14) FC hKn hP i_X12 0 rfl rfl 14 (by decide) b_1132 rfl dX12_readPlan_58 ?_
        refine lv_bipush (v := 6) hx hb dX12_readPlan_61 (by decide) ?_
        refine va_iald hx hb hKn.1 hP 2 0 rfl rfl (by unfold vp_in; decide) dX12_readPlan_63 ?_
        refine lv_topi (fun z134 e_z134 => ?_)
        have t_z134 : 0 ≤ z134.toInt ∧ z134.toInt ≤ 8 := by rw [e_z134]; exact wk_6 h_x121
        have q_z134 : z134.toInt = (x121 6).toInt := by rw [e_z134]; rfl
        refine lv_iconst (v := 1) hx hb dX12_readPlan_64 (by decide) ?_
        refine lv_isub hx hb dX12_readPlan_65 ?_
        have kc1 : (1 : Int32).toInt = 1 := by decide
        refine lv_topi (fun z135 e_z135 => ?_)
        have t_z135 : z135.toInt = z134.toInt - ((1 : Int32)).toInt := by rw [e_z135]; exact fb_subI (by omega) (by omega)
        have kc0 : (0 : Int32).toInt = 0 := by decide
        refine call_V (As := [.int 0, .int z135]) (rest := []) (wr := [(a14, .inl (g.2 0, 225, .inl x121))]) FC hKn hZ (k_X12_number l g h0 a1 a2 a3 a4 a6 a14 a15 a19 a20 a23 a24 a25 a26 a27 a28 mthrown mtaped msize x115 x116 x117 x118 x119 x120 mgoal mgoalDays mgoalHearer mleastOrder mwordsMany mtape ((0 : Int32)) z135 (by first | assumption | omega) (by first | assumption | omega) (by first | assumption | omega) (by first | assumption | omega) (by first | assumption | omega) (by first | assumption | omega) (by first | assumption | omega) (by first | assumption | omega) (by first | assumption | omega)) m_yX12_number b_1131 (ci := 12) rfl rfl rfl hP hD hS hA [0, 1] [2] rfl (by decide) rfl (by decide) (by decide) rfl hl.1 rfl (Nat.le_of_ble_eq_true rfl) dX12_readPlan_66 ⟨(Nat.le_of_ble_eq_true rfl), (Nat.le_of_ble_eq_true rfl)⟩ ⟨(Nat.le_of_ble_eq_true rfl), (Nat.le_of_ble_eq_true rfl)⟩ (fun u136 H locs q137 hP hD hS => ?_)
        obtain ⟨q137_0, q137_1, q137_2, q137_3, q137_4, q137_5, q137_6, q137_7, q137_8, q137_9⟩ := q137
        have hP : va_P g.1 vwCl [(a14, .inl (g.2 0, 225, .inl x121)), (h0, .inr (12, [.int mthrown, .ref a1, .ref a2, .ref a3, .ref a4, .int mtaped, .ref a6, .int msize, .int (u136.1 1), .int (u136.1 2), .int (u136.1 3), .int (u136.1 4), .int (u136.1 5), .int (u136.1 6), .ref a14, .ref a15, .int mgoal, .int mgoalDays, .int mgoalHearer, .ref a19, .ref a20, .int mleastOrder, .int mwordsMany, .ref a23, .ref a24, .ref a25, .ref a26, .ref a27, .ref a28])), (a4, .inl (g.2 1, 900, .inl mtape))] H := hP
        have hD : va_D A [(a14, .inl (g.2 0, 225, .inl x121)), (h0, .inr (12, [.int mthrown, .ref a1, .ref a2, .ref a3, .ref a4, .int mtaped, .ref a6, .int msize, .int (u136.1 1), .int (u136.1 2), .int (u136.1 3), .int (u136.1 4), .int (u136.1 5), .int (u136.1 6), .ref a14, .ref a15, .int mgoal, .int mgoalDays, .int mgoalHearer, .ref a19, .ref a20, .int mleastOrder, .int mwordsMany, .ref a23, .ref a24, .ref a25, .ref a26, .ref a27, .ref a28])), (a4, .inl (g.2 1, 900, .inl mtape))] := hD
        refine W.eq (g2 := F0 m 69 ls [.int (u136.1 0)]) rfl ?_
        refine lv_istore_n (lv' := [(3, .int (u136.1 0)), (2, .int x114), (1, .int z3), (0, .ref h0)]) hx hb dX12_readPlan_69 rfl hl (by decide) rfl (fun ls hl => ?_)
        refine lv_aload_n hx hb dX12_readPlan_70 rfl (lv_at hl 3 rfl) ?_
        refine call_V (As := []) (rest := []) (wr := [(a14, .inl (g.2 0, 225, .inl x121)), (a4, .inl (g.2 1, 900, .inl mtape))]) FC hKn hZ (k_X12_good l g h0 a1 a2 a3 a4 a6 a14 a15 a19 a20 a23 a24 a25 a26 a27 a28 mthrown mtaped msize (u136.1 1) (u136.1 2) (u136.1 3) (u136.1 4) (u136.1 5) (u136.1 6) mgoal mgoalDays mgoalHearer mleastOrder mwordsMany (by first | assumption | omega) (by first | assumption | omega) (by first | assumption | omega) (by first | assumption | omega) (by first | assumption | omega) (by first | assumption | omega) (by first | assumption | omega) (by first | assumption | omega) (by first | assumption | omega)) m_yX12_good b_1117 (ci := 12) rfl rfl rfl hP hD hS hA [1] [0, 2] rfl (by decide) rfl (by decide) (by decide) rfl hl.1 rfl (Nat.le_of_ble_eq_true rfl) dX12_readPlan_71 ⟨(Nat.le_of_ble_eq_true rfl), (Nat.le_of_ble_eq_true rfl)⟩ ⟨(Nat.le_of_ble_eq_true rfl), (Nat.le_of_ble_eq_true rfl)⟩ (fun u138 H locs q139 hP hD hS => ?_)
        obtain ⟨q139_0, q139_1⟩ := q139
        have hP : va_P g.1 vwCl [(a14, .inl (g.2 0, 225, .inl x121)), (a4, .inl (g.2 1, 900, .inl mtape)), (h0, .inr (12, [.int mthrown, .ref a1, .ref a2, .ref a3, .ref a4, .int mtaped, .ref a6, .int msize, .int (u136.1 1), .int (u136.1 2), .int (u136.1 3), .int (u136.1 4), .int (u136.1 5), .int (u136.1 6), .ref a14, .ref a15, .int mgoal, .int mgoalDays, .int mgoalHearer, .ref a19, .ref a20, .int mleastOrder, .int mwordsMany, .ref a23, .ref a24, .ref a25, .ref a26, .ref a27, .ref a28]))] H := hP
        have hD : va_D A [(a14, .inl (g.2 0, 225, .inl x121)), (a4, .inl (g.2 1, 900, .inl mtape)), (h0, .inr (12, [.int mthrown, .ref a1, .ref a2, .ref a3, .ref a4, .int mtaped, .ref a6, .int msize, .int (u136.1 1), .int (u136.1 2), .int (u136.1 3), .int (u136.1 4), .int (u136.1 5), .int (u136.1 6), .ref a14, .ref a15, .int mgoal, .int mgoalDays, .int mgoalHearer, .ref a19, .ref a20, .int mleastOrder, .int mwordsMany, .ref a23, .ref a24, .ref a25, .ref a26, .ref a27, .ref a28]))] := hD
        refine W.eq (g2 := F0 m 74 ls [.int (u138.1 0)]) rfl ?_
        rcases (show (u136.1 5).toInt = 0 ∨ (u136.1 5).toInt ≠ 0 by omega) with c140 | c140
        · skip
          have q137_6g := q137_6 c140
          clear q137_6
          have q137_7g := q137_7 c140
          clear q137_7
          clear q137_8
          have q137_9g := q137_9 c140
          clear q137_9
          refine tp_i (v := 1) (Int32.toInt_inj.mp (show (u138.1 0).toInt = (1 : Int32).toInt by rw [show (1 : Int32).toInt = 1 by decide]; omega)) ?_
          refine lv_if_ne (tgt := 78) hx hb dX12_readPlan_74 (by decide) (fun _ => ?_) (fun h => absurd h (by decide))
          refine lv_aload_n hx hb dX12_readPlan_78 rfl (lv_at hl 3 rfl) ?_
          refine g_get (C := RX12) (T := TX12) (N := 29) (ci := 12) (v := .ref a14) FC hKn hP i_X12 2 rfl rfl 14 (by decide) b_1132 rfl dX12_readPlan_79 ?_
          refine lv_iload_n hx hb dX12_readPlan_82 rfl (lv_at hl 2 rfl) ?_
          refine lv_iconst (v := 1) hx hb dX12_readPlan_83 (by decide) ?_
          refine lv_iadd hx hb dX12_readPlan_84 ?_
          refine lv_topi (fun z141 e_z141 => ?_)
          have t_z141 : z141.toInt = z3.toInt + ((1 : Int32)).toInt := by rw [e_z141]; exact fb_addI (by omega) (by omega)
          refine lv_iload_n hx hb dX12_readPlan_85 rfl (lv_at hl 1 rfl) ?_
          refine lv_iadd hx hb dX12_readPlan_86 ?_
          refine lv_topi (fun z142 e_z142 => ?_)
          have t_z142 : z142.toInt = z141.toInt + x114.toInt := by rw [e_z142]; exact fb_addI (by omega) (by omega)
          refine lv_iload_n hx hb dX12_readPlan_87 rfl (lv_at hl 0 rfl) ?_
          refine va_iast hx hb hKn.1 hP hD hS 0 0 rfl rfl (vp_in_iff.mpr ⟨by omega, by omega⟩) dX12_readPlan_88 (fun H locs hP hD hS => ?_)
          have hP : va_P g.1 vwCl [(a14, .inl (g.2 0, 225, .inl (upd x121 (z142.toNatClampNeg) (u136.1 0)))), (a4, .inl (g.2 1, 900, .inl mtape)), (h0, .inr (12, [.int mthrown, .ref a1, .ref a2, .ref a3, .ref a4, .int mtaped, .ref a6, .int msize, .int (u136.1 1), .int (u136.1 2), .int (u136.1 3), .int (u136.1 4), .int (u136.1 5), .int (u136.1 6), .ref a14, .ref a15, .int mgoal, .int mgoalDays, .int mgoalHearer, .ref a19, .ref a20, .int mleastOrder, .int mwordsMany, .ref a23, .ref a24, .ref a25, .ref a26, .ref a27, .ref a28]))] H := hP
          have hD : va_D A [(a14, .inl (g.2 0, 225, .inl (upd x121 (z142.toNatClampNeg) (u136.1 0)))), (a4, .inl (g.2 1, 900, .inl mtape)), (h0, .inr (12, [.int mthrown, .ref a1, .ref a2, .ref a3, .ref a4, .int mtaped, .ref a6, .int msize, .int (u136.1 1), .int (u136.1 2), .int (u136.1 3), .int (u136.1 4), .int (u136.1 5), .int (u136.1 6), .ref a14, .ref a15, .int mgoal, .int mgoalDays, .int mgoalHearer, .ref a19, .ref a20, .int mleastOrder, .int mwordsMany, .ref a23, .ref a24, .ref a25, .ref a26, .ref a27, .ref a28]))] := hD
          have a_f143 : wok (upd x121 (z142.toNatClampNeg) (u136.1 0)) := (wx_p h_x121 (q := (mfresh 7).toInt.toNat) (n := x114) (by omega) (by omega) (by omega) (by omega) (by omega))
          refine gn_f (upd x121 (z142.toNatClampNeg) (u136.1 0)) (fun f143 E_f143 => ?_)
          rw [E_f143] at hP hD a_f143
          have lw_f143 : (11 : Int) ≤ z142.toInt := by (try clear q137_6); (try clear q137_7); (try clear q137_8); (try clear q137_9); (try clear hi124); omega
          have g_f143_0 : (f143 0).toInt = (x121 0).toInt := uklo E_f143 lw_f143 (by decide)
          have g_f143_2 : (f143 2).toInt = (x121 2).toInt := uklo E_f143 lw_f143 (by decide)
          have g_f143_5 : (f143 5).toInt = (x121 5).toInt := uklo E_f143 lw_f143 (by decide)
          have g_f143_6 : (f143 6).toInt = (x121 6).toInt := uklo E_f143 lw_f143 (by decide)
          have g_f143_7 : (f143 7).toInt = (x121 7).toInt := uklo E_f143 lw_f143 (by decide)
          have g_f143_8 : (f143 8).toInt = (x121 8).toInt := uklo E_f143 lw_f143 (by decide)
          have g_f143_9 : (f143 9).toInt = (x121 9).toInt := uklo E_f143 lw_f143 (by decide)
          obtain ⟨z144, e_z144⟩ : ∃ y : Int32, y = x114 + 1 := ⟨_, rfl⟩
          have t_z144 : z144.toInt = x114.toInt + 1 := by rw [e_z144]; exact addk (by decide) (by omega) (by omega)
          refine lv_iinc (v := z144) (lv' := [(2, .int z144), (3, .int (u136.1 0)), (1, .int z3), (0, .ref h0)]) hx hb dX12_readPlan_89 hl (k := 1) rfl (by rw [e_z144]; rfl) (by decide) rfl (fun ls hl => ?_)
          refine lv_aload_n hx hb dX12_readPlan_92 rfl (lv_at hl 3 rfl) ?_
          refine g_get (C := RX12) (T := TX12) (N := 29) (ci := 12) (v := .int (u136.1 3)) FC hKn hP i_X12 2 rfl rfl 10 (by decide) b_1114 rfl dX12_readPlan_93 ?_
          refine lv_iconst (v := 3) hx hb dX12_readPlan_96 (by decide) ?_
          refine lv_icmp_ne (tgt := 16) hx hb dX12_readPlan_97 (by decide) (fun c145 => ?_) (fun c145 => ?_)
          · have c145 := k_ne (a := (u136.1 3).toInt) (b := 3) rfl (by decide) c145
            exact ih130 z144 (u136.1 1) (u136.1 2) (u136.1 3) (u136.1 4) (u136.1 5) (u136.1 6) f143 _ _ ls (by first | assumption | omega) (by first | assumption | omega) (by first | assumption | omega) (by first | assumption | omega) (by first | assumption | omega) (by first | assumption | omega) a_f143 (by rw [← E_f143]; exact pl_s (n := x114) hi122 (by omega) (by omega) (by omega) (by omega)) (Int.le_trans (hi123) q137_5) (fun h9 => (hi124 q137_6g)) (g_f143_0.trans hi125) (g_f143_2.trans hi126) (g_f143_6.trans hi127) (g_f143_7.trans hi128) (msr hn132 q137_9g (by omega) (by omega)) (hP.sub [2, 1, 0] rfl) (hD.sub [2, 1, 0] (by decide) rfl) hS (lv_sub hl [0, 2, 3] rfl)
          · have c145 := k_eq (a := (u136.1 3).toInt) (b := 3) rfl (by decide) c145
            refine lv_aload_n hx hb dX12_readPlan_100 rfl (lv_at hl 3 rfl) ?_
            refine g_get (C := RX12) (T := TX12) (N := 29) (ci := 12) (v := .ref a14) FC hKn hP i_X12 2 rfl rfl 14 (by decide) b_1132 rfl dX12_readPlan_101 ?_
            refine lv_iload_n hx hb dX12_readPlan_104 rfl (lv_at hl 2 rfl) ?_
            refine lv_iload_n hx hb dX12_readPlan_105 rfl (lv_at hl 0 rfl) ?_
            refine va_iast hx hb hKn.1 hP hD hS 0 0 rfl rfl (vp_in_iff.mpr ⟨by omega, by omega⟩) dX12_readPlan_106 (fun H locs hP hD hS => ?_)
            have hP : va_P g.1 vwCl [(a14, .inl (g.2 0, 225, .inl (upd f143 (z3.toNatClampNeg) z144))), (a4, .inl (g.2 1, 900, .inl mtape)), (h0, .inr (12, [.int mthrown, .ref a1, .ref a2, .ref a3, .ref a4, .int mtaped, .ref a6, .int msize, .int (u136.1 1), .int (u136.1 2), .int (u136.1 3), .int (u136.1 4), .int (u136.1 5), .int (u136.1 6), .ref a14, .ref a15, .int mgoal, .int mgoalDays, .int mgoalHearer, .ref a19, .ref a20, .int mleastOrder, .int mwordsMany, .ref a23, .ref a24, .ref a25, .ref a26, .ref a27, .ref a28]))] H := hP
            have hD : va_D A [(a14, .inl (g.2 0, 225, .inl (upd f143 (z3.toNatClampNeg) z144))), (a4, .inl (g.2 1, 900, .inl mtape)), (h0, .inr (12, [.int mthrown, .ref a1, .ref a2, .ref a3, .ref a4, .int mtaped, .ref a6, .int msize, .int (u136.1 1), .int (u136.1 2), .int (u136.1 3), .int (u136.1 4), .int (u136.1 5), .int (u136.1 6), .ref a14, .ref a15, .int mgoal, .int mgoalDays, .int mgoalHearer, .ref a19, .ref a20, .int mleastOrder, .int mwordsMany, .ref a23, .ref a24, .ref a25, .ref a26, .ref a27, .ref a28]))] := hD
            have a_f146 : wok (upd f143 (z3.toNatClampNeg) z144) := (wx_l a_f143 (q := (mfresh 7).toInt.toNat) (by omega) (by omega) (by omega) (by rw [← E_f143]; exact pl_s (n := x114) hi122 (by omega) (by omega) (by omega) (by omega)))
            refine gn_f (upd f143 (z3.toNatClampNeg) z144) (fun f146 E_f146 => ?_)
            rw [E_f146] at hP hD a_f146
            have lw_f146 : (11 : Int) ≤ z3.toInt := by (try clear q137_6); (try clear q137_7); (try clear q137_8); (try clear q137_9); (try clear hi124); omega
            have g_f146_0 : (f146 0).toInt = (f143 0).toInt := uklo E_f146 lw_f146 (by decide)
            have g_f146_2 : (f146 2).toInt = (f143 2).toInt := uklo E_f146 lw_f146 (by decide)
            have g_f146_5 : (f146 5).toInt = (f143 5).toInt := uklo E_f146 lw_f146 (by decide)
            have g_f146_6 : (f146 6).toInt = (f143 6).toInt := uklo E_f146 lw_f146 (by decide)
            have g_f146_7 : (f146 7).toInt = (f143 7).toInt := uklo E_f146 lw_f146 (by decide)
            have g_f146_8 : (f146 8).toInt = (f143 8).toInt := uklo E_f146 lw_f146 (by decide)
            have g_f146_9 : (f146 9).toInt = (f143 9).toInt := uklo E_f146 lw_f146 (by decide)
            refine lv_aload_n hx hb dX12_readPlan_107 rfl (lv_at hl 3 rfl) ?_
            refine g_get (C := RX12) (T := TX12) (N := 29) (ci := 12) (v := .ref a14) FC hKn hP i_X12 2 rfl rfl 14 (by decide) b_1132 rfl dX12_readPlan_108 ?_
            refine lv_bipush (v := 7) hx hb dX12_readPlan_111 (by decide) ?_
            refine lv_dup2_11 hx hb dX12_readPlan_113 rfl rfl ?_
            refine va_iald hx hb hKn.1 hP 0 0 rfl rfl (by unfold vp_in; decide) dX12_readPlan_114 ?_
            refine lv_topi (fun z147 e_z147 => ?_)
            have t_z147 : 0 ≤ z147.toInt ∧ z147.toInt ≤ 4 := by rw [e_z147]; exact wk_7 a_f146
            have q_z147 : z147.toInt = (f146 7).toInt := by rw [e_z147]; rfl
            refine lv_iconst (v := 1) hx hb dX12_readPlan_115 (by decide) ?_
            refine lv_iadd hx hb dX12_readPlan_116 ?_
            refine lv_topi (fun z148 e_z148 => ?_)
            have t_z148 : z148.toInt = z147.toInt + ((1 : Int32)).toInt := by rw [e_z148]; exact fb_addI (by omega) (by omega)
            refine va_iast hx hb hKn.1 hP hD hS 0 0 rfl rfl (by unfold vp_in; decide) dX12_readPlan_117 (fun H locs hP hD hS => ?_)
            have hP : va_P g.1 vwCl [(a14, .inl (g.2 0, 225, .inl (upd f146 ((7 : Int32).toNatClampNeg) z148))), (a4, .inl (g.2 1, 900, .inl mtape)), (h0, .inr (12, [.int mthrown, .ref a1, .ref a2, .ref a3, .ref a4, .int mtaped, .ref a6, .int msize, .int (u136.1 1), .int (u136.1 2), .int (u136.1 3), .int (u136.1 4), .int (u136.1 5), .int (u136.1 6), .ref a14, .ref a15, .int mgoal, .int mgoalDays, .int mgoalHearer, .ref a19, .ref a20, .int mleastOrder, .int mwordsMany, .ref a23, .ref a24, .ref a25, .ref a26, .ref a27, .ref a28]))] H := hP
            have hD : va_D A [(a14, .inl (g.2 0, 225, .inl (upd f146 ((7 : Int32).toNatClampNeg) z148))), (a4, .inl (g.2 1, 900, .inl mtape)), (h0, .inr (12, [.int mthrown, .ref a1, .ref a2, .ref a3, .ref a4, .int mtaped, .ref a6, .int msize, .int (u136.1 1), .int (u136.1 2), .int (u136.1 3), .int (u136.1 4), .int (u136.1 5), .int (u136.1 6), .ref a14, .ref a15, .int mgoal, .int mgoalDays, .int mgoalHearer, .ref a19, .ref a20, .int mleastOrder, .int mwordsMany, .ref a23, .ref a24, .ref a25, .ref a26, .ref a27, .ref a28]))] := hD
            have a_f149 : wok (upd f146 ((7 : Int32).toNatClampNeg) z148) := (wk_uc (k := 7) a_f146 (by omega))
            refine gn_f (upd f146 ((7 : Int32).toNatClampNeg) z148) (fun f149 E_f149 => ?_)
            rw [E_f149] at hP hD a_f149
            have g_f149_0 : (f149 0).toInt = (f146 0).toInt := by rw [← E_f149, show ((7 : Int32).toNatClampNeg : Nat) = 7 from rfl, uo (by decide)]
            have g_f149_2 : (f149 2).toInt = (f146 2).toInt := by rw [← E_f149, show ((7 : Int32).toNatClampNeg : Nat) = 7 from rfl, uo (by decide)]
            have g_f149_5 : (f149 5).toInt = (f146 5).toInt := by rw [← E_f149, show ((7 : Int32).toNatClampNeg : Nat) = 7 from rfl, uo (by decide)]
            have g_f149_6 : (f149 6).toInt = (f146 6).toInt := by rw [← E_f149, show ((7 : Int32).toNatClampNeg : Nat) = 7 from rfl, uo (by decide)]
            have g_f149_7 : (f149 7).toInt = z148.toInt := by rw [← E_f149, show ((7 : Int32).toNatClampNeg : Nat) = 7 from rfl, pk_us]
            have g_f149_8 : (f149 8).toInt = (f146 8).toInt := by rw [← E_f149, show ((7 : Int32).toNatClampNeg : Nat) = 7 from rfl, uo (by decide)]
            have g_f149_9 : (f149 9).toInt = (f146 9).toInt := by rw [← E_f149, show ((7 : Int32).toNatClampNeg : Nat) = 7 from rfl, uo (by decide)]
            exact rt_v FX ((fun k => match k with | 0 => 0 | 1 => u136.1 1 | 2 => u136.1 2 | 3 => u136.1 3 | 4 => u136.1 4 | 5 => u136.1 5 | 6 => u136.1 6 | _ => 0), (fun k => match k with | 0 => f149 | _ => fun _ => 0), (fun _ => fun _ => 0)) rfl ⟨(show 0 ≤ (u136.1 1).toInt ∧ (u136.1 1).toInt ≤ 900 by first | assumption | omega), (show 0 ≤ (u136.1 2).toInt ∧ (u136.1 2).toInt ≤ 900 by first | assumption | omega), (show 0 ≤ (u136.1 3).toInt ∧ (u136.1 3).toInt ≤ 4 by first | assumption | omega), (show 0 ≤ (u136.1 4).toInt ∧ (u136.1 4).toInt ≤ 99999 by first | assumption | omega), (show 0 ≤ (u136.1 5).toInt ∧ (u136.1 5).toInt ≤ 3 by first | assumption | omega), a_f149, (show 5 * mat.toInt - mtoken.toInt ≤ 5 * (u136.1 1).toInt - (u136.1 3).toInt from (Int.le_trans (hi123) q137_5)), (show (u136.1 5).toInt = 0 → mfaultKind.toInt = 0 from (fun h9 => (hi124 q137_6g))), (show ((f149) 0).toInt = (mfresh 0).toInt ∧ ((f149) 2).toInt = (mfresh 2).toInt from ⟨(g_f149_0.trans (g_f146_0.trans (g_f143_0.trans hi125))), (g_f149_2.trans (g_f146_2.trans (g_f143_2.trans hi126)))⟩)⟩ (hP.sub [2, 1, 0] rfl) (hD.sub [2, 1, 0] (by decide) rfl) hS (Nat.le_of_ble_eq_true rfl) (Nat.le_of_ble_eq_true rfl) dX12_readPlan_118
        · skip
          clear q137_6
          clear q137_7
          have q137_8g := q137_8 c140
          clear q137_8
          clear q137_9
          refine tp_i (v := 0) (Int32.toInt_inj.mp (show (u138.1 0).toInt = (0 : Int32).toInt by rw [show (0 : Int32).toInt = 0 by decide]; omega)) ?_
          refine lv_if_ne (tgt := 78) hx hb dX12_readPlan_74 (by decide) (fun h => absurd h (by decide)) (fun _ => ?_)
          exact rt_v FX ((fun k => match k with | 0 => 0 | 1 => u136.1 1 | 2 => u136.1 2 | 3 => u136.1 3 | 4 => u136.1 4 | 5 => u136.1 5 | 6 => u136.1 6 | _ => 0), (fun k => match k with | 0 => x121 | _ => fun _ => 0), (fun _ => fun _ => 0)) rfl ⟨(show 0 ≤ (u136.1 1).toInt ∧ (u136.1 1).toInt ≤ 900 by first | assumption | omega), (show 0 ≤ (u136.1 2).toInt ∧ (u136.1 2).toInt ≤ 900 by first | assumption | omega), (show 0 ≤ (u136.1 3).toInt ∧ (u136.1 3).toInt ≤ 4 by first | assumption | omega), (show 0 ≤ (u136.1 4).toInt ∧ (u136.1 4).toInt ≤ 99999 by first | assumption | omega), (show 0 ≤ (u136.1 5).toInt ∧ (u136.1 5).toInt ≤ 3 by first | assumption | omega), h_x121, (show 5 * mat.toInt - mtoken.toInt ≤ 5 * (u136.1 1).toInt - (u136.1 3).toInt from (Int.le_trans (hi123) q137_5)), (show (u136.1 5).toInt = 0 → mfaultKind.toInt = 0 from (fun h9 => (absurd h9 c140))), (show ((x121) 0).toInt = (mfresh 0).toInt ∧ ((x121) 2).toInt = (mfresh 2).toInt from ⟨hi125, hi126⟩)⟩ (hP.sub [2, 1, 0] rfl) (hD.sub [2, 1, 0] (by decide) rfl) hS (Nat.le_of_ble_eq_true rfl) (Nat.le_of_ble_eq_true rfl) dX12_readPlan_77
      · have c133 := k_eq (a := x114.toInt) (b := 5) rfl (by decide) c133
        refine lv_aload_n hx hb dX12_readPlan_21 rfl (lv_at hl 2 rfl) ?_
        refine call_V (As := []) (rest := []) (wr := [(a4, .inl (g.2 1, 900, .inl mtape)), (a14, .inl (g.2 0, 225, .inl x121))]) FC hKn hZ (k_X12_good l g h0 a1 a2 a3 a4 a6 a14 a15 a19 a20 a23 a24 a25 a26 a27 a28 mthrown mtaped msize x115 x116 x117 x118 x119 x120 mgoal mgoalDays mgoalHearer mleastOrder mwordsMany (by first | assumption | omega) (by first | assumption | omega) (by first | assumption | omega) (by first | assumption | omega) (by first | assumption | omega) (by first | assumption | omega) (by first | assumption | omega) (by first | assumption | omega) (by first | assumption | omega)) m_yX12_good b_1117 (ci := 12) rfl rfl rfl hP hD hS hA [0] [1, 2] rfl (by decide) rfl (by decide) (by decide) rfl hl.1 rfl (Nat.le_of_ble_eq_true rfl) dX12_readPlan_22 ⟨(Nat.le_of_ble_eq_true rfl), (Nat.le_of_ble_eq_true rfl)⟩ ⟨(Nat.le_of_ble_eq_true rfl), (Nat.le_of_ble_eq_true rfl)⟩ (fun u150 H locs q151 hP hD hS => ?_)
        obtain ⟨q151_0, q151_1⟩ := q151
        have hP : va_P g.1 vwCl [(a4, .inl (g.2 1, 900, .inl mtape)), (a14, .inl (g.2 0, 225, .inl x121)), (h0, .inr (12, [.int mthrown, .ref a1, .ref a2, .ref a3, .ref a4, .int mtaped, .ref a6, .int msize, .int x115, .int x116, .int x117, .int x118, .int x119, .int x120, .ref a14, .ref a15, .int mgoal, .int mgoalDays, .int mgoalHearer, .ref a19, .ref a20, .int mleastOrder, .int mwordsMany, .ref a23, .ref a24, .ref a25, .ref a26, .ref a27, .ref a28]))] H := hP
        have hD : va_D A [(a4, .inl (g.2 1, 900, .inl mtape)), (a14, .inl (g.2 0, 225, .inl x121)), (h0, .inr (12, [.int mthrown, .ref a1, .ref a2, .ref a3, .ref a4, .int mtaped, .ref a6, .int msize, .int x115, .int x116, .int x117, .int x118, .int x119, .int x120, .ref a14, .ref a15, .int mgoal, .int mgoalDays, .int mgoalHearer, .ref a19, .ref a20, .int mleastOrder, .int mwordsMany, .ref a23, .ref a24, .ref a25, .ref a26, .ref a27, .ref a28]))] := hD
        refine W.eq (g2 := F0 m 25 ls [.int (u150.1 0)]) rfl ?_
        rcases (show x119.toInt = 0 ∨ x119.toInt ≠ 0 by omega) with c152 | c152
        · skip
          refine tp_i (v := 1) (Int32.toInt_inj.mp (show (u150.1 0).toInt = (1 : Int32).toInt by rw [show (1 : Int32).toInt = 1 by decide]; omega)) ?_
          refine lv_if_eq (tgt := 55) hx hb dX12_readPlan_25 (by decide) (fun h => absurd h (by decide)) (fun _ => ?_)
          refine lv_aload_n hx hb dX12_readPlan_28 rfl (lv_at hl 2 rfl) ?_
          refine g_get (C := RX12) (T := TX12) (N := 29) (ci := 12) (v := .int x117) FC hKn hP i_X12 2 rfl rfl 10 (by decide) b_1114 rfl dX12_readPlan_29 ?_
          refine lv_iconst (v := 2) hx hb dX12_readPlan_32 (by decide) ?_
          refine lv_icmp_ne (tgt := 55) hx hb dX12_readPlan_33 (by decide) (fun c153 => ?_) (fun c153 => ?_)
          · have c153 := k_ne (a := x117.toInt) (b := 2) rfl (by decide) c153
            refine lv_aload_n hx hb dX12_readPlan_55 rfl (lv_at hl 2 rfl) ?_
            refine lv_iconst (v := 0) hx hb dX12_readPlan_56 (by decide) ?_
            refine lv_aload_n hx hb dX12_readPlan_57 rfl (lv_at hl 2 rfl) ?_
            refine g_get (C := RX12) (T := TX12) (N := 29) (ci := 12) (v := .ref a14) FC hKn hP i_X12 2 rfl rfl 14 (by decide) b_1132 rfl dX12_readPlan_58 ?_
            refine lv_bipush (v := 6) hx hb dX12_readPlan_61 (by decide) ?_
            refine va_iald hx hb hKn.1 hP 1 0 rfl rfl (by unfold vp_in; decide) dX12_readPlan_63 ?_
            refine lv_topi (fun z154 e_z154 => ?_)
            have t_z154 : 0 ≤ z154.toInt ∧ z154.toInt ≤ 8 := by rw [e_z154]; exact wk_6 h_x121
            have q_z154 : z154.toInt = (x121 6).toInt := by rw [e_z154]; rfl
            refine lv_iconst (v := 1) hx hb dX12_readPlan_64 (by decide) ?_
            refine lv_isub hx hb dX12_readPlan_65 ?_
            have kc1 : (1 : Int32).toInt = 1 := by decide
            refine lv_topi (fun z155 e_z155 => ?_)
            have t_z155 : z155.toInt = z154.toInt - ((1 : Int32)).toInt := by rw [e_z155]; exact fb_subI (by omega) (by omega)
            have kc0 : (0 : Int32).toInt = 0 := by decide
            refine call_V (As := [.int 0, .int z155]) (rest := []) (wr := [(a14, .inl (g.2 0, 225, .inl x121))]) FC hKn hZ (k_X12_number l g h0 a1 a2 a3 a4 a6 a14 a15 a19 a20 a23 a24 a25 a26 a27 a28 mthrown mtaped msize x115 x116 x117 x118 x119 x120 mgoal mgoalDays mgoalHearer mleastOrder mwordsMany mtape ((0 : Int32)) z155 (by first | assumption | omega) (by first | assumption | omega) (by first | assumption | omega) (by first | assumption | omega) (by first | assumption | omega) (by first | assumption | omega) (by first | assumption | omega) (by first | assumption | omega) (by first | assumption | omega)) m_yX12_number b_1131 (ci := 12) rfl rfl rfl hP hD hS hA [2, 0] [1] rfl (by decide) rfl (by decide) (by decide) rfl hl.1 rfl (Nat.le_of_ble_eq_true rfl) dX12_readPlan_66 ⟨(Nat.le_of_ble_eq_true rfl), (Nat.le_of_ble_eq_true rfl)⟩ ⟨(Nat.le_of_ble_eq_true rfl), (Nat.le_of_ble_eq_true rfl)⟩ (fun u156 H locs q157 hP hD hS => ?_)
            obtain ⟨q157_0, q157_1, q157_2, q157_3, q157_4, q157_5, q157_6, q157_7, q157_8, q157_9⟩ := q157
            have hP : va_P g.1 vwCl [(a14, .inl (g.2 0, 225, .inl x121)), (h0, .inr (12, [.int mthrown, .ref a1, .ref a2, .ref a3, .ref a4, .int mtaped, .ref a6, .int msize, .int (u156.1 1), .int (u156.1 2), .int (u156.1 3), .int (u156.1 4), .int (u156.1 5), .int (u156.1 6), .ref a14, .ref a15, .int mgoal, .int mgoalDays, .int mgoalHearer, .ref a19, .ref a20, .int mleastOrder, .int mwordsMany, .ref a23, .ref a24, .ref a25, .ref a26, .ref a27, .ref a28])), (a4, .inl (g.2 1, 900, .inl mtape))] H := hP
            have hD : va_D A [(a14, .inl (g.2 0, 225, .inl x121)), (h0, .inr (12, [.int mthrown, .ref a1, .ref a2, .ref a3, .ref a4, .int mtaped, .ref a6, .int msize, .int (u156.1 1), .int (u156.1 2), .int (u156.1 3), .int (u156.1 4), .int (u156.1 5), .int (u156.1 6), .ref a14, .ref a15, .int mgoal, .int mgoalDays, .int mgoalHearer, .ref a19, .ref a20, .int mleastOrder, .int mwordsMany, .ref a23, .ref a24, .ref a25, .ref a26, .ref a27, .ref a28])), (a4, .inl (g.2 1, 900, .inl mtape))] := hD
            refine W.eq (g2 := F0 m 69 ls [.int (u156.1 0)]) rfl ?_
            refine lv_istore_n (lv' := [(3, .int (u156.1 0)), (2, .int x114), (1, .int z3), (0, .ref h0)]) hx hb dX12_readPlan_69 rfl hl (by decide) rfl (fun ls hl => ?_)
            refine lv_aload_n hx hb dX12_readPlan_70 rfl (lv_at hl 3 rfl) ?_
            refine call_V (As := []) (rest := []) (wr := [(a14, .inl (g.2 0, 225, .inl x121)), (a4, .inl (g.2 1, 900, .inl mtape))]) FC hKn hZ (k_X12_good l g h0 a1 a2 a3 a4 a6 a14 a15 a19 a20 a23 a24 a25 a26 a27 a28 mthrown mtaped msize (u156.1 1) (u156.1 2) (u156.1 3) (u156.1 4) (u156.1 5) (u156.1 6) mgoal mgoalDays mgoalHearer mleastOrder mwordsMany (by first | assumption | omega) (by first | assumption | omega) (by first | assumption | omega) (by first | assumption | omega) (by first | assumption | omega) (by first | assumption | omega) (by first | assumption | omega) (by first | assumption | omega) (by first | assumption | omega)) m_yX12_good b_1117 (ci := 12) rfl rfl rfl hP hD hS hA [1] [0, 2] rfl (by decide) rfl (by decide) (by decide) rfl hl.1 rfl (Nat.le_of_ble_eq_true rfl) dX12_readPlan_71 ⟨(Nat.le_of_ble_eq_true rfl), (Nat.le_of_ble_eq_true rfl)⟩ ⟨(Nat.le_of_ble_eq_true rfl), (Nat.le_of_ble_eq_true rfl)⟩ (fun u158 H locs q159 hP hD hS => ?_)
            obtain ⟨q159_0, q159_1⟩ := q159
            have hP : va_P g.1 vwCl [(a14, .inl (g.2 0, 225, .inl x121)), (a4, .inl (g.2 1, 900, .inl mtape)), (h0, .inr (12, [.int mthrown, .ref a1, .ref a2, .ref a3, .ref a4, .int mtaped, .ref a6, .int msize, .int (u156.1 1), .int (u156.1 2), .int (u156.1 3), .int (u156.1 4), .int (u156.1 5), .int (u156.1 6), .ref a14, .ref a15, .int mgoal, .int mgoalDays, .int mgoalHearer, .ref a19, .ref a20, .int mleastOrder, .int mwordsMany, .ref a23, .ref a24, .ref a25, .ref a26, .ref a27, .ref a28]))] H := hP
            have hD : va_D A [(a14, .inl (g.2 0, 225, .inl x121)), (a4, .inl (g.2 1, 900, .inl mtape)), (h0, .inr (12, [.int mthrown, .ref a1, .ref a2, .ref a3, .ref a4, .int mtaped, .ref a6, .int msize, .int (u156.1 1), .int (u156.1 2), .int (u156.1 3), .int (u156.1 4), .int (u156.1 5), .int (u156.1 6), .ref a14, .ref a15, .int mgoal, .int mgoalDays, .int mgoalHearer, .ref a19, .ref a20, .int mleastOrder, .int mwordsMany, .ref a23, .ref a24, .ref a25, .ref a26, .ref a27, .ref a28]))] := hD
            refine W.eq (g2 := F0 m 74 ls [.int (u158.1 0)]) rfl ?_
            rcases (show (u156.1 5).toInt = 0 ∨ (u156.1 5).toInt ≠ 0 by omega) with c160 | c160
            · skip
              have q157_6g := q157_6 c160
              clear q157_6
              have q157_7g := q157_7 c160
              clear q157_7
              clear q157_8
              have q157_9g := q157_9 c160
              clear q157_9
              refine tp_i (v := 1) (Int32.toInt_inj.mp (show (u158.1 0).toInt = (1 : Int32).toInt by rw [show (1 : Int32).toInt = 1 by decide]; omega)) ?_
              refine lv_if_ne (tgt := 78) hx hb dX12_readPlan_74 (by decide) (fun _ => ?_) (fun h => absurd h (by decide))
              refine lv_aload_n hx hb dX12_readPlan_78 rfl (lv_at hl 3 rfl) ?_
              refine g_get (C := RX12) (T := TX12) (N := 29) (ci := 12) (v := .ref a14) FC hKn hP i_X12 2 rfl rfl 14 (by decide) b_1132 rfl dX12_readPlan_79 ?_
              refine lv_iload_n hx hb dX12_readPlan_82 rfl (lv_at hl 2 rfl) ?_
              refine lv_iconst (v := 1) hx hb dX12_readPlan_83 (by decide) ?_
              refine lv_iadd hx hb dX12_readPlan_84 ?_
              refine lv_topi (fun z161 e_z161 => ?_)
              have t_z161 : z161.toInt = z3.toInt + ((1 : Int32)).toInt := by rw [e_z161]; exact fb_addI (by omega) (by omega)
              refine lv_iload_n hx hb dX12_readPlan_85 rfl (lv_at hl 1 rfl) ?_
              refine lv_iadd hx hb dX12_readPlan_86 ?_
              refine lv_topi (fun z162 e_z162 => ?_)
              have t_z162 : z162.toInt = z161.toInt + x114.toInt := by rw [e_z162]; exact fb_addI (by omega) (by omega)
              refine lv_iload_n hx hb dX12_readPlan_87 rfl (lv_at hl 0 rfl) ?_
              refine va_iast hx hb hKn.1 hP hD hS 0 0 rfl rfl (vp_in_iff.mpr ⟨by omega, by omega⟩) dX12_readPlan_88 (fun H locs hP hD hS => ?_)
              have hP : va_P g.1 vwCl [(a14, .inl (g.2 0, 225, .inl (upd x121 (z162.toNatClampNeg) (u156.1 0)))), (a4, .inl (g.2 1, 900, .inl mtape)), (h0, .inr (12, [.int mthrown, .ref a1, .ref a2, .ref a3, .ref a4, .int mtaped, .ref a6, .int msize, .int (u156.1 1), .int (u156.1 2), .int (u156.1 3), .int (u156.1 4), .int (u156.1 5), .int (u156.1 6), .ref a14, .ref a15, .int mgoal, .int mgoalDays, .int mgoalHearer, .ref a19, .ref a20, .int mleastOrder, .int mwordsMany, .ref a23, .ref a24, .ref a25, .ref a26, .ref a27, .ref a28]))] H := hP
              have hD : va_D A [(a14, .inl (g.2 0, 225, .inl (upd x121 (z162.toNatClampNeg) (u156.1 0)))), (a4, .inl (g.2 1, 900, .inl mtape)), (h0, .inr (12, [.int mthrown, .ref a1, .ref a2, .ref a3, .ref a4, .int mtaped, .ref a6, .int msize, .int (u156.1 1), .int (u156.1 2), .int (u156.1 3), .int (u156.1 4), .int (u156.1 5), .int (u156.1 6), .ref a14, .ref a15, .int mgoal, .int mgoalDays, .int mgoalHearer, .ref a19, .ref a20, .int mleastOrder, .int mwordsMany, .ref a23, .ref a24, .ref a25, .ref a26, .ref a27, .ref a28]))] := hD
              have a_f163 : wok (upd x121 (z162.toNatClampNeg) (u156.1 0)) := (wx_p h_x121 (q := (mfresh 7).toInt.toNat) (n := x114) (by omega) (by omega) (by omega) (by omega) (by omega))
              refine gn_f (upd x121 (z162.toNatClampNeg) (u156.1 0)) (fun f163 E_f163 => ?_)
              rw [E_f163] at hP hD a_f163
              have lw_f163 : (11 : Int) ≤ z162.toInt := by (try clear q157_6); (try clear q157_7); (try clear q157_8); (try clear q157_9); (try clear hi124); omega
              have g_f163_0 : (f163 0).toInt = (x121 0).toInt := uklo E_f163 lw_f163 (by decide)
              have g_f163_2 : (f163 2).toInt = (x121 2).toInt := uklo E_f163 lw_f163 (by decide)
              have g_f163_5 : (f163 5).toInt = (x121 5).toInt := uklo E_f163 lw_f163 (by decide)
              have g_f163_6 : (f163 6).toInt = (x121 6).toInt := uklo E_f163 lw_f163 (by decide)
              have g_f163_7 : (f163 7).toInt = (x121 7).toInt := uklo E_f163 lw_f163 (by decide)
              have g_f163_8 : (f163 8).toInt = (x121 8).toInt := uklo E_f163 lw_f163 (by decide)
              have g_f163_9 : (f163 9).toInt = (x121 9).toInt := uklo E_f163 lw_f163 (by decide)
              obtain ⟨z164, e_z164⟩ : ∃ y : Int32, y = x114 + 1 := ⟨_, rfl⟩
              have t_z164 : z164.toInt = x114.toInt + 1 := by rw [e_z164]; exact addk (by decide) (by omega) (by omega)
              refine lv_iinc (v := z164) (lv' := [(2, .int z164), (3, .int (u156.1 0)), (1, .int z3), (0, .ref h0)]) hx hb dX12_readPlan_89 hl (k := 1) rfl (by rw [e_z164]; rfl) (by decide) rfl (fun ls hl => ?_)
              refine lv_aload_n hx hb dX12_readPlan_92 rfl (lv_at hl 3 rfl) ?_
              refine g_get (C := RX12) (T := TX12) (N := 29) (ci := 12) (v := .int (u156.1 3)) FC hKn hP i_X12 2 rfl rfl 10 (by decide) b_1114 rfl dX12_readPlan_93 ?_
              refine lv_iconst (v := 3) hx hb dX12_readPlan_96 (by decide) ?_
              refine lv_icmp_ne (tgt := 16) hx hb dX12_readPlan_97 (by decide) (fun c165 => ?_) (fun c165 => ?_)
              · have c165 := k_ne (a := (u156.1 3).toInt) (b := 3) rfl (by decide) c165
                exact ih130 z164 (u156.1 1) (u156.1 2) (u156.1 3) (u156.1 4) (u156.1 5) (u156.1 6) f163 _ _ ls (by first | assumption | omega) (by first | assumption | omega) (by first | assumption | omega) (by first | assumption | omega) (by first | assumption | omega) (by first | assumption | omega) a_f163 (by rw [← E_f163]; exact pl_s (n := x114) hi122 (by omega) (by omega) (by omega) (by omega)) (Int.le_trans (hi123) q157_5) (fun h9 => (hi124 q157_6g)) (g_f163_0.trans hi125) (g_f163_2.trans hi126) (g_f163_6.trans hi127) (g_f163_7.trans hi128) (msr hn132 q157_9g (by omega) (by omega)) (hP.sub [2, 1, 0] rfl) (hD.sub [2, 1, 0] (by decide) rfl) hS (lv_sub hl [0, 2, 3] rfl)
              · have c165 := k_eq (a := (u156.1 3).toInt) (b := 3) rfl (by decide) c165
                refine lv_aload_n hx hb dX12_readPlan_100 rfl (lv_at hl 3 rfl) ?_
                refine g_get (C := RX12) (T := TX12) (N := 29) (ci := 12) (v := .ref a14) FC hKn hP i_X12 2 rfl rfl 14 (by decide) b_1132 rfl dX12_readPlan_101 ?_
                refine lv_iload_n hx hb dX12_readPlan_104 rfl (lv_at hl 2 rfl) ?_
                refine lv_iload_n hx hb dX12_readPlan_105 rfl (lv_at hl 0 rfl) ?_
                refine va_iast hx hb hKn.1 hP hD hS 0 0 rfl rfl (vp_in_iff.mpr ⟨by omega, by omega⟩) dX12_readPlan_106 (fun H locs hP hD hS => ?_)
                have hP : va_P g.1 vwCl [(a14, .inl (g.2 0, 225, .inl (upd f163 (z3.toNatClampNeg) z164))), (a4, .inl (g.2 1, 900, .inl mtape)), (h0, .inr (12, [.int mthrown, .ref a1, .ref a2, .ref a3, .ref a4, .int mtaped, .ref a6, .int msize, .int (u156.1 1), .int (u156.1 2), .int (u156.1 3), .int (u156.1 4), .int (u156.1 5), .int (u156.1 6), .ref a14, .ref a15, .int mgoal, .int mgoalDays, .int mgoalHearer, .ref a19, .ref a20, .int mleastOrder, .int mwordsMany, .ref a23, .ref a24, .ref a25, .ref a26, .ref a27, .ref a28]))] H := hP
                have hD : va_D A [(a14, .inl (g.2 0, 225, .inl (upd f163 (z3.toNatClampNeg) z164))), (a4, .inl (g.2 1, 900, .inl mtape)), (h0, .inr (12, [.int mthrown, .ref a1, .ref a2, .ref a3, .ref a4, .int mtaped, .ref a6, .int msize, .int (u156.1 1), .int (u156.1 2), .int (u156.1 3), .int (u156.1 4), .int (u156.1 5), .int (u156.1 6), .ref a14, .ref a15, .int mgoal, .int mgoalDays, .int mgoalHearer, .ref a19, .ref a20, .int mleastOrder, .int mwordsMany, .ref a23, .ref a24, .ref a25, .ref a26, .ref a27, .ref a28]))] := hD
                have a_f166 : wok (upd f163 (z3.toNatClampNeg) z164) := (wx_l a_f163 (q := (mfresh 7).toInt.toNat) (by omega) (by omega) (by omega) (by rw [← E_f163]; exact pl_s (n := x114) hi122 (by omega) (by omega) (by omega) (by omega)))
                refine gn_f (upd f163 (z3.toNatClampNeg) z164) (fun f166 E_f166 => ?_)
                rw [E_f166] at hP hD a_f166
                have lw_f166 : (11 : Int) ≤ z3.toInt := by (try clear q157_6); (try clear q157_7); (try clear q157_8); (try clear q157_9); (try clear hi124); omega
                have g_f166_0 : (f166 0).toInt = (f163 0).toInt := uklo E_f166 lw_f166 (by decide)
                have g_f166_2 : (f166 2).toInt = (f163 2).toInt := uklo E_f166 lw_f166 (by decide)
                have g_f166_5 : (f166 5).toInt = (f163 5).toInt := uklo E_f166 lw_f166 (by decide)
                have g_f166_6 : (f166 6).toInt = (f163 6).toInt := uklo E_f166 lw_f166 (by decide)
                have g_f166_7 : (f166 7).toInt = (f163 7).toInt := uklo E_f166 lw_f166 (by decide)
                have g_f166_8 : (f166 8).toInt = (f163 8).toInt := uklo E_f166 lw_f166 (by decide)
                have g_f166_9 : (f166 9).toInt = (f163 9).toInt := uklo E_f166 lw_f166 (by decide)
                refine lv_aload_n hx hb dX12_readPlan_107 rfl (lv_at hl 3 rfl) ?_
                refine g_get (C := RX12) (T := TX12) (N := 29) (ci := 12) (v := .ref a14) FC hKn hP i_X12 2 rfl rfl 14 (by decide) b_1132 rfl dX12_readPlan_108 ?_
                refine lv_bipush (v := 7) hx hb dX12_readPlan_111 (by decide) ?_
                refine lv_dup2_11 hx hb dX12_readPlan_113 rfl rfl ?_
                refine va_iald hx hb hKn.1 hP 0 0 rfl rfl (by unfold vp_in; decide) dX12_readPlan_114 ?_
                refine lv_topi (fun z167 e_z167 => ?_)
                have t_z167 : 0 ≤ z167.toInt ∧ z167.toInt ≤ 4 := by rw [e_z167]; exact wk_7 a_f166
                have q_z167 : z167.toInt = (f166 7).toInt := by rw [e_z167]; rfl
                refine lv_iconst (v := 1) hx hb dX12_readPlan_115 (by decide) ?_
                refine lv_iadd hx hb dX12_readPlan_116 ?_
                refine lv_topi (fun z168 e_z168 => ?_)
                have t_z168 : z168.toInt = z167.toInt + ((1 : Int32)).toInt := by rw [e_z168]; exact fb_addI (by omega) (by omega)
                refine va_iast hx hb hKn.1 hP hD hS 0 0 rfl rfl (by unfold vp_in; decide) dX12_readPlan_117 (fun H locs hP hD hS => ?_)
                have hP : va_P g.1 vwCl [(a14, .inl (g.2 0, 225, .inl (upd f166 ((7 : Int32).toNatClampNeg) z168))), (a4, .inl (g.2 1, 900, .inl mtape)), (h0, .inr (12, [.int mthrown, .ref a1, .ref a2, .ref a3, .ref a4, .int mtaped, .ref a6, .int msize, .int (u156.1 1), .int (u156.1 2), .int (u156.1 3), .int (u156.1 4), .int (u156.1 5), .int (u156.1 6), .ref a14, .ref a15, .int mgoal, .int mgoalDays, .int mgoalHearer, .ref a19, .ref a20, .int mleastOrder, .int mwordsMany, .ref a23, .ref a24, .ref a25, .ref a26, .ref a27, .ref a28]))] H := hP
                have hD : va_D A [(a14, .inl (g.2 0, 225, .inl (upd f166 ((7 : Int32).toNatClampNeg) z168))), (a4, .inl (g.2 1, 900, .inl mtape)), (h0, .inr (12, [.int mthrown, .ref a1, .ref a2, .ref a3, .ref a4, .int mtaped, .ref a6, .int msize, .int (u156.1 1), .int (u156.1 2), .int (u156.1 3), .int (u156.1 4), .int (u156.1 5), .int (u156.1 6), .ref a14, .ref a15, .int mgoal, .int mgoalDays, .int mgoalHearer, .ref a19, .ref a20, .int mleastOrder, .int mwordsMany, .ref a23, .ref a24, .ref a25, .ref a26, .ref a27, .ref a28]))] := hD
                have a_f169 : wok (upd f166 ((7 : Int32).toNatClampNeg) z168) := (wk_uc (k := 7) a_f166 (by omega))
                refine gn_f (upd f166 ((7 : Int32).toNatClampNeg) z168) (fun f169 E_f169 => ?_)
                rw [E_f169] at hP hD a_f169
                have g_f169_0 : (f169 0).toInt = (f166 0).toInt := by rw [← E_f169, show ((7 : Int32).toNatClampNeg : Nat) = 7 from rfl, uo (by decide)]
                have g_f169_2 : (f169 2).toInt = (f166 2).toInt := by rw [← E_f169, show ((7 : Int32).toNatClampNeg : Nat) = 7 from rfl, uo (by decide)]
                have g_f169_5 : (f169 5).toInt = (f166 5).toInt := by rw [← E_f169, show ((7 : Int32).toNatClampNeg : Nat) = 7 from rfl, uo (by decide)]
                have g_f169_6 : (f169 6).toInt = (f166 6).toInt := by rw [← E_f169, show ((7 : Int32).toNatClampNeg : Nat) = 7 from rfl, uo (by decide)]
                have g_f169_7 : (f169 7).toInt = z168.toInt := by rw [← E_f169, show ((7 : Int32).toNatClampNeg : Nat) = 7 from rfl, pk_us]
                have g_f169_8 : (f169 8).toInt = (f166 8).toInt := by rw [← E_f169, show ((7 : Int32).toNatClampNeg : Nat) = 7 from rfl, uo (by decide)]
                have g_f169_9 : (f169 9).toInt = (f166 9).toInt := by rw [← E_f169, show ((7 : Int32).toNatClampNeg : Nat) = 7 from rfl, uo (by decide)]
                exact rt_v FX ((fun k => match k with | 0 => 0 | 1 => u156.1 1 | 2 => u156.1 2 | 3 => u156.1 3 | 4 => u156.1 4 | 5 => u156.1 5 | 6 => u156.1 6 | _ => 0), (fun k => match k with | 0 => f169 | _ => fun _ => 0), (fun _ => fun _ => 0)) rfl ⟨(show 0 ≤ (u156.1 1).toInt ∧ (u156.1 1).toInt ≤ 900 by first | assumption | omega), (show 0 ≤ (u156.1 2).toInt ∧ (u156.1 2).toInt ≤ 900 by first | assumption | omega), (show 0 ≤ (u156.1 3).toInt ∧ (u156.1 3).toInt ≤ 4 by first | assumption | omega), (show 0 ≤ (u156.1 4).toInt ∧ (u156.1 4).toInt ≤ 99999 by first | assumption | omega), (show 0 ≤ (u156.1 5).toInt ∧ (u156.1 5).toInt ≤ 3 by first | assumption | omega), a_f169, (show 5 * mat.toInt - mtoken.toInt ≤ 5 * (u156.1 1).toInt - (u156.1 3).toInt from (Int.le_trans (hi123) q157_5)), (show (u156.1 5).toInt = 0 → mfaultKind.toInt = 0 from (fun h9 => (hi124 q157_6g))), (show ((f169) 0).toInt = (mfresh 0).toInt ∧ ((f169) 2).toInt = (mfresh 2).toInt from ⟨(g_f169_0.trans (g_f166_0.trans (g_f163_0.trans hi125))), (g_f169_2.trans (g_f166_2.trans (g_f163_2.trans hi126)))⟩)⟩ (hP.sub [2, 1, 0] rfl) (hD.sub [2, 1, 0] (by decide) rfl) hS (Nat.le_of_ble_eq_true rfl) (Nat.le_of_ble_eq_true rfl) dX12_readPlan_118
            · skip
              clear q157_6
              clear q157_7
              have q157_8g := q157_8 c160
              clear q157_8
              clear q157_9
              refine tp_i (v := 0) (Int32.toInt_inj.mp (show (u158.1 0).toInt = (0 : Int32).toInt by rw [show (0 : Int32).toInt = 0 by decide]; omega)) ?_
              refine lv_if_ne (tgt := 78) hx hb dX12_readPlan_74 (by decide) (fun h => absurd h (by decide)) (fun _ => ?_)
              exact rt_v FX ((fun k => match k with | 0 => 0 | 1 => u156.1 1 | 2 => u156.1 2 | 3 => u156.1 3 | 4 => u156.1 4 | 5 => u156.1 5 | 6 => u156.1 6 | _ => 0), (fun k => match k with | 0 => x121 | _ => fun _ => 0), (fun _ => fun _ => 0)) rfl ⟨(show 0 ≤ (u156.1 1).toInt ∧ (u156.1 1).toInt ≤ 900 by first | assumption | omega), (show 0 ≤ (u156.1 2).toInt ∧ (u156.1 2).toInt ≤ 900 by first | assumption | omega), (show 0 ≤ (u156.1 3).toInt ∧ (u156.1 3).toInt ≤ 4 by first | assumption | omega), (show 0 ≤ (u156.1 4).toInt ∧ (u156.1 4).toInt ≤ 99999 by first | assumption | omega), (show 0 ≤ (u156.1 5).toInt ∧ (u156.1 5).toInt ≤ 3 by first | assumption | omega), h_x121, (show 5 * mat.toInt - mtoken.toInt ≤ 5 * (u156.1 1).toInt - (u156.1 3).toInt from (Int.le_trans (hi123) q157_5)), (show (u156.1 5).toInt = 0 → mfaultKind.toInt = 0 from (fun h9 => (absurd h9 c160))), (show ((x121) 0).toInt = (mfresh 0).toInt ∧ ((x121) 2).toInt = (mfresh 2).toInt from ⟨hi125, hi126⟩)⟩ (hP.sub [2, 1, 0] rfl) (hD.sub [2, 1, 0] (by decide) rfl) hS (Nat.le_of_ble_eq_true rfl) (Nat.le_of_ble_eq_true rfl) dX12_readPlan_77
          · have c153 := k_eq (a := x117.toInt) (b := 2) rfl (by decide) c153
            refine lv_aload_n hx hb dX12_readPlan_36 rfl (lv_at hl 2 rfl) ?_
            refine g_get (C := RX12) (T := TX12) (N := 29) (ci := 12) (v := .int x118) FC hKn hP i_X12 2 rfl rfl 11 (by decide) b_1115 rfl dX12_readPlan_37 ?_
            refine lv_aload_n hx hb dX12_readPlan_40 rfl (lv_at hl 2 rfl) ?_
            refine g_get (C := RX12) (T := TX12) (N := 29) (ci := 12) (v := .ref a14) FC hKn hP i_X12 2 rfl rfl 14 (by decide) b_1132 rfl dX12_readPlan_41 ?_
            refine lv_bipush (v := 6) hx hb dX12_readPlan_44 (by decide) ?_
            refine va_iald hx hb hKn.1 hP 1 0 rfl rfl (by unfold vp_in; decide) dX12_readPlan_46 ?_
            refine lv_topi (fun z170 e_z170 => ?_)
            have t_z170 : 0 ≤ z170.toInt ∧ z170.toInt ≤ 8 := by rw [e_z170]; exact wk_6 h_x121
            have q_z170 : z170.toInt = (x121 6).toInt := by rw [e_z170]; rfl
            refine lv_icmp_ge (tgt := 55) hx hb dX12_readPlan_47 (by decide) (fun c171 => ?_) (fun c171 => ?_)
            · have c171 := k_le (a := z170.toInt) (b := x118.toInt) rfl rfl c171
              refine lv_aload_n hx hb dX12_readPlan_55 rfl (lv_at hl 2 rfl) ?_
              refine lv_iconst (v := 0) hx hb dX12_readPlan_56 (by decide) ?_
              refine lv_aload_n hx hb dX12_readPlan_57 rfl (lv_at hl 2 rfl) ?_
              refine g_get (C := RX12) (T := TX12) (N := 29) (ci := 12) (v := .ref a14) FC hKn hP i_X12 2 rfl rfl 14 (by decide) b_1132 rfl dX12_readPlan_58 ?_
              refine lv_bipush (v := 6) hx hb dX12_readPlan_61 (by decide) ?_
              refine va_iald hx hb hKn.1 hP 1 0 rfl rfl (by unfold vp_in; decide) dX12_readPlan_63 ?_
              refine tp_i (v := z170) e_z170.symm ?_
              refine lv_iconst (v := 1) hx hb dX12_readPlan_64 (by decide) ?_
              refine lv_isub hx hb dX12_readPlan_65 ?_
              have kc1 : (1 : Int32).toInt = 1 := by decide
              refine lv_topi (fun z172 e_z172 => ?_)
              have t_z172 : z172.toInt = z170.toInt - ((1 : Int32)).toInt := by rw [e_z172]; exact fb_subI (by omega) (by omega)
              have kc0 : (0 : Int32).toInt = 0 := by decide
              refine call_V (As := [.int 0, .int z172]) (rest := []) (wr := [(a14, .inl (g.2 0, 225, .inl x121))]) FC hKn hZ (k_X12_number l g h0 a1 a2 a3 a4 a6 a14 a15 a19 a20 a23 a24 a25 a26 a27 a28 mthrown mtaped msize x115 x116 x117 x118 x119 x120 mgoal mgoalDays mgoalHearer mleastOrder mwordsMany mtape ((0 : Int32)) z172 (by first | assumption | omega) (by first | assumption | omega) (by first | assumption | omega) (by first | assumption | omega) (by first | assumption | omega) (by first | assumption | omega) (by first | assumption | omega) (by first | assumption | omega) (by first | assumption | omega)) m_yX12_number b_1131 (ci := 12) rfl rfl rfl hP hD hS hA [2, 0] [1] rfl (by decide) rfl (by decide) (by decide) rfl hl.1 rfl (Nat.le_of_ble_eq_true rfl) dX12_readPlan_66 ⟨(Nat.le_of_ble_eq_true rfl), (Nat.le_of_ble_eq_true rfl)⟩ ⟨(Nat.le_of_ble_eq_true rfl), (Nat.le_of_ble_eq_true rfl)⟩ (fun u173 H locs q174 hP hD hS => ?_)
              obtain ⟨q174_0, q174_1, q174_2, q174_3, q174_4, q174_5, q174_6, q174_7, q174_8, q174_9⟩ := q174
              have hP : va_P g.1 vwCl [(a14, .inl (g.2 0, 225, .inl x121)), (h0, .inr (12, [.int mthrown, .ref a1, .ref a2, .ref a3, .ref a4, .int mtaped, .ref a6, .int msize, .int (u173.1 1), .int (u173.1 2), .int (u173.1 3), .int (u173.1 4), .int (u173.1 5), .int (u173.1 6), .ref a14, .ref a15, .int mgoal, .int mgoalDays, .int mgoalHearer, .ref a19, .ref a20, .int mleastOrder, .int mwordsMany, .ref a23, .ref a24, .ref a25, .ref a26, .ref a27, .ref a28])), (a4, .inl (g.2 1, 900, .inl mtape))] H := hP
              have hD : va_D A [(a14, .inl (g.2 0, 225, .inl x121)), (h0, .inr (12, [.int mthrown, .ref a1, .ref a2, .ref a3, .ref a4, .int mtaped, .ref a6, .int msize, .int (u173.1 1), .int (u173.1 2), .int (u173.1 3), .int (u173.1 4), .int (u173.1 5), .int (u173.1 6), .ref a14, .ref a15, .int mgoal, .int mgoalDays, .int mgoalHearer, .ref a19, .ref a20, .int mleastOrder, .int mwordsMany, .ref a23, .ref a24, .ref a25, .ref a26, .ref a27, .ref a28])), (a4, .inl (g.2 1, 900, .inl mtape))] := hD
              refine W.eq (g2 := F0 m 69 ls [.int (u173.1 0)]) rfl ?_
              refine lv_istore_n (lv' := [(3, .int (u173.1 0)), (2, .int x114), (1, .int z3), (0, .ref h0)]) hx hb dX12_readPlan_69 rfl hl (by decide) rfl (fun ls hl => ?_)
              refine lv_aload_n hx hb dX12_readPlan_70 rfl (lv_at hl 3 rfl) ?_
              refine call_V (As := []) (rest := []) (wr := [(a14, .inl (g.2 0, 225, .inl x121)), (a4, .inl (g.2 1, 900, .inl mtape))]) FC hKn hZ (k_X12_good l g h0 a1 a2 a3 a4 a6 a14 a15 a19 a20 a23 a24 a25 a26 a27 a28 mthrown mtaped msize (u173.1 1) (u173.1 2) (u173.1 3) (u173.1 4) (u173.1 5) (u173.1 6) mgoal mgoalDays mgoalHearer mleastOrder mwordsMany (by first | assumption | omega) (by first | assumption | omega) (by first | assumption | omega) (by first | assumption | omega) (by first | assumption | omega) (by first | assumption | omega) (by first | assumption | omega) (by first | assumption | omega) (by first | assumption | omega)) m_yX12_good b_1117 (ci := 12) rfl rfl rfl hP hD hS hA [1] [0, 2] rfl (by decide) rfl (by decide) (by decide) rfl hl.1 rfl (Nat.le_of_ble_eq_true rfl) dX12_readPlan_71 ⟨(Nat.le_of_ble_eq_true rfl), (Nat.le_of_ble_eq_true rfl)⟩ ⟨(Nat.le_of_ble_eq_true rfl), (Nat.le_of_ble_eq_true rfl)⟩ (fun u175 H locs q176 hP hD hS => ?_)
              obtain ⟨q176_0, q176_1⟩ := q176
              have hP : va_P g.1 vwCl [(a14, .inl (g.2 0, 225, .inl x121)), (a4, .inl (g.2 1, 900, .inl mtape)), (h0, .inr (12, [.int mthrown, .ref a1, .ref a2, .ref a3, .ref a4, .int mtaped, .ref a6, .int msize, .int (u173.1 1), .int (u173.1 2), .int (u173.1 3), .int (u173.1 4), .int (u173.1 5), .int (u173.1 6), .ref a14, .ref a15, .int mgoal, .int mgoalDays, .int mgoalHearer, .ref a19, .ref a20, .int mleastOrder, .int mwordsMany, .ref a23, .ref a24, .ref a25, .ref a26, .ref a27, .ref a28]))] H := hP
              have hD : va_D A [(a14, .inl (g.2 0, 225, .inl x121)), (a4, .inl (g.2 1, 900, .inl mtape)), (h0, .inr (12, [.int mthrown, .ref a1, .ref a2, .ref a3, .ref a4, .int mtaped, .ref a6, .int msize, .int (u173.1 1), .int (u173.1 2), .int (u173.1 3), .int (u173.1 4), .int (u173.1 5), .int (u173.1 6), .ref a14, .ref a15, .int mgoal, .int mgoalDays, .int mgoalHearer, .ref a19, .ref a20, .int mleastOrder, .int mwordsMany, .ref a23, .ref a24, .ref a25, .ref a26, .ref a27, .ref a28]))] := hD
              refine W.eq (g2 := F0 m 74 ls [.int (u175.1 0)]) rfl ?_
              rcases (show (u173.1 5).toInt = 0 ∨ (u173.1 5).toInt ≠ 0 by omega) with c177 | c177
              · skip
                have q174_6g := q174_6 c177
                clear q174_6
                have q174_7g := q174_7 c177
                clear q174_7
                clear q174_8
                have q174_9g := q174_9 c177
                clear q174_9
                refine tp_i (v := 1) (Int32.toInt_inj.mp (show (u175.1 0).toInt = (1 : Int32).toInt by rw [show (1 : Int32).toInt = 1 by decide]; omega)) ?_
                refine lv_if_ne (tgt := 78) hx hb dX12_readPlan_74 (by decide) (fun _ => ?_) (fun h => absurd h (by decide))
                refine lv_aload_n hx hb dX12_readPlan_78 rfl (lv_at hl 3 rfl) ?_
                refine g_get (C := RX12) (T := TX12) (N := 29) (ci := 12) (v := .ref a14) FC hKn hP i_X12 2 rfl rfl 14 (by decide) b_1132 rfl dX12_readPlan_79 ?_
                refine lv_iload_n hx hb dX12_readPlan_82 rfl (lv_at hl 2 rfl) ?_
                refine lv_iconst (v := 1) hx hb dX12_readPlan_83 (by decide) ?_
                refine lv_iadd hx hb dX12_readPlan_84 ?_
                refine lv_topi (fun z178 e_z178 => ?_)
                have t_z178 : z178.toInt = z3.toInt + ((1 : Int32)).toInt := by rw [e_z178]; exact fb_addI (by omega) (by omega)
                refine lv_iload_n hx hb dX12_readPlan_85 rfl (lv_at hl 1 rfl) ?_
                refine lv_iadd hx hb dX12_readPlan_86 ?_
                refine lv_topi (fun z179 e_z179 => ?_)
                have t_z179 : z179.toInt = z178.toInt + x114.toInt := by rw [e_z179]; exact fb_addI (by omega) (by omega)
                refine lv_iload_n hx hb dX12_readPlan_87 rfl (lv_at hl 0 rfl) ?_
                refine va_iast hx hb hKn.1 hP hD hS 0 0 rfl rfl (vp_in_iff.mpr ⟨by omega, by omega⟩) dX12_readPlan_88 (fun H locs hP hD hS => ?_)
                have hP : va_P g.1 vwCl [(a14, .inl (g.2 0, 225, .inl (upd x121 (z179.toNatClampNeg) (u173.1 0)))), (a4, .inl (g.2 1, 900, .inl mtape)), (h0, .inr (12, [.int mthrown, .ref a1, .ref a2, .ref a3, .ref a4, .int mtaped, .ref a6, .int msize, .int (u173.1 1), .int (u173.1 2), .int (u173.1 3), .int (u173.1 4), .int (u173.1 5), .int (u173.1 6), .ref a14, .ref a15, .int mgoal, .int mgoalDays, .int mgoalHearer, .ref a19, .ref a20, .int mleastOrder, .int mwordsMany, .ref a23, .ref a24, .ref a25, .ref a26, .ref a27, .ref a28]))] H := hP
                have hD : va_D A [(a14, .inl (g.2 0, 225, .inl (upd x121 (z179.toNatClampNeg) (u173.1 0)))), (a4, .inl (g.2 1, 900, .inl mtape)), (h0, .inr (12, [.int mthrown, .ref a1, .ref a2, .ref a3, .ref a4, .int mtaped, .ref a6, .int msize, .int (u173.1 1), .int (u173.1 2), .int (u173.1 3), .int (u173.1 4), .int (u173.1 5), .int (u173.1 6), .ref a14, .ref a15, .int mgoal, .int mgoalDays, .int mgoalHearer, .ref a19, .ref a20, .int mleastOrder, .int mwordsMany, .ref a23, .ref a24, .ref a25, .ref a26, .ref a27, .ref a28]))] := hD
                have a_f180 : wok (upd x121 (z179.toNatClampNeg) (u173.1 0)) := (wx_p h_x121 (q := (mfresh 7).toInt.toNat) (n := x114) (by omega) (by omega) (by omega) (by omega) (by omega))
                refine gn_f (upd x121 (z179.toNatClampNeg) (u173.1 0)) (fun f180 E_f180 => ?_)
                rw [E_f180] at hP hD a_f180
                have lw_f180 : (11 : Int) ≤ z179.toInt := by (try clear q174_6); (try clear q174_7); (try clear q174_8); (try clear q174_9); (try clear hi124); omega
                have g_f180_0 : (f180 0).toInt = (x121 0).toInt := uklo E_f180 lw_f180 (by decide)
                have g_f180_2 : (f180 2).toInt = (x121 2).toInt := uklo E_f180 lw_f180 (by decide)
                have g_f180_5 : (f180 5).toInt = (x121 5).toInt := uklo E_f180 lw_f180 (by decide)
                have g_f180_6 : (f180 6).toInt = (x121 6).toInt := uklo E_f180 lw_f180 (by decide)
                have g_f180_7 : (f180 7).toInt = (x121 7).toInt := uklo E_f180 lw_f180 (by decide)
                have g_f180_8 : (f180 8).toInt = (x121 8).toInt := uklo E_f180 lw_f180 (by decide)
                have g_f180_9 : (f180 9).toInt = (x121 9).toInt := uklo E_f180 lw_f180 (by decide)
                obtain ⟨z181, e_z181⟩ : ∃ y : Int32, y = x114 + 1 := ⟨_, rfl⟩
                have t_z181 : z181.toInt = x114.toInt + 1 := by rw [e_z181]; exact addk (by decide) (by omega) (by omega)
                refine lv_iinc (v := z181) (lv' := [(2, .int z181), (3, .int (u173.1 0)), (1, .int z3), (0, .ref h0)]) hx hb dX12_readPlan_89 hl (k := 1) rfl (by rw [e_z181]; rfl) (by decide) rfl (fun ls hl => ?_)
                refine lv_aload_n hx hb dX12_readPlan_92 rfl (lv_at hl 3 rfl) ?_
                refine g_get (C := RX12) (T := TX12) (N := 29) (ci := 12) (v := .int (u173.1 3)) FC hKn hP i_X12 2 rfl rfl 10 (by decide) b_1114 rfl dX12_readPlan_93 ?_
                refine lv_iconst (v := 3) hx hb dX12_readPlan_96 (by decide) ?_
                refine lv_icmp_ne (tgt := 16) hx hb dX12_readPlan_97 (by decide) (fun c182 => ?_) (fun c182 => ?_)
                · have c182 := k_ne (a := (u173.1 3).toInt) (b := 3) rfl (by decide) c182
                  exact ih130 z181 (u173.1 1) (u173.1 2) (u173.1 3) (u173.1 4) (u173.1 5) (u173.1 6) f180 _ _ ls (by first | assumption | omega) (by first | assumption | omega) (by first | assumption | omega) (by first | assumption | omega) (by first | assumption | omega) (by first | assumption | omega) a_f180 (by rw [← E_f180]; exact pl_s (n := x114) hi122 (by omega) (by omega) (by omega) (by omega)) (Int.le_trans (hi123) q174_5) (fun h9 => (hi124 q174_6g)) (g_f180_0.trans hi125) (g_f180_2.trans hi126) (g_f180_6.trans hi127) (g_f180_7.trans hi128) (msr hn132 q174_9g (by omega) (by omega)) (hP.sub [2, 1, 0] rfl) (hD.sub [2, 1, 0] (by decide) rfl) hS (lv_sub hl [0, 2, 3] rfl)
                · have c182 := k_eq (a := (u173.1 3).toInt) (b := 3) rfl (by decide) c182
                  refine lv_aload_n hx hb dX12_readPlan_100 rfl (lv_at hl 3 rfl) ?_
                  refine g_get (C := RX12) (T := TX12) (N := 29) (ci := 12) (v := .ref a14) FC hKn hP i_X12 2 rfl rfl 14 (by decide) b_1132 rfl dX12_readPlan_101 ?_
                  refine lv_iload_n hx hb dX12_readPlan_104 rfl (lv_at hl 2 rfl) ?_
                  refine lv_iload_n hx hb dX12_readPlan_105 rfl (lv_at hl 0 rfl) ?_
                  refine va_iast hx hb hKn.1 hP hD hS 0 0 rfl rfl (vp_in_iff.mpr ⟨by omega, by omega⟩) dX12_readPlan_106 (fun H locs hP hD hS => ?_)
                  have hP : va_P g.1 vwCl [(a14, .inl (g.2 0, 225, .inl (upd f180 (z3.toNatClampNeg) z181))), (a4, .inl (g.2 1, 900, .inl mtape)), (h0, .inr (12, [.int mthrown, .ref a1, .ref a2, .ref a3, .ref a4, .int mtaped, .ref a6, .int msize, .int (u173.1 1), .int (u173.1 2), .int (u173.1 3), .int (u173.1 4), .int (u173.1 5), .int (u173.1 6), .ref a14, .ref a15, .int mgoal, .int mgoalDays, .int mgoalHearer, .ref a19, .ref a20, .int mleastOrder, .int mwordsMany, .ref a23, .ref a24, .ref a25, .ref a26, .ref a27, .ref a28]))] H := hP
                  have hD : va_D A [(a14, .inl (g.2 0, 225, .inl (upd f180 (z3.toNatClampNeg) z181))), (a4, .inl (g.2 1, 900, .inl mtape)), (h0, .inr (12, [.int mthrown, .ref a1, .ref a2, .ref a3, .ref a4, .int mtaped, .ref a6, .int msize, .int (u173.1 1), .int (u173.1 2), .int (u173.1 3), .int (u173.1 4), .int (u173.1 5), .int (u173.1 6), .ref a14, .ref a15, .int mgoal, .int mgoalDays, .int mgoalHearer, .ref a19, .ref a20, .int mleastOrder, .int mwordsMany, .ref a23, .ref a24, .ref a25, .ref a26, .ref a27, .ref a28]))] := hD
                  have a_f183 : wok (upd f180 (z3.toNatClampNeg) z181) := (wx_l a_f180 (q := (mfresh 7).toInt.toNat) (by omega) (by omega) (by omega) (by rw [← E_f180]; exact pl_s (n := x114) hi122 (by omega) (by omega) (by omega) (by omega)))
                  refine gn_f (upd f180 (z3.toNatClampNeg) z181) (fun f183 E_f183 => ?_)
                  rw [E_f183] at hP hD a_f183
                  have lw_f183 : (11 : Int) ≤ z3.toInt := by (try clear q174_6); (try clear q174_7); (try clear q174_8); (try clear q174_9); (try clear hi124); omega
                  have g_f183_0 : (f183 0).toInt = (f180 0).toInt := uklo E_f183 lw_f183 (by decide)
                  have g_f183_2 : (f183 2).toInt = (f180 2).toInt := uklo E_f183 lw_f183 (by decide)
                  have g_f183_5 : (f183 5).toInt = (f180 5).toInt := uklo E_f183 lw_f183 (by decide)
                  have g_f183_6 : (f183 6).toInt = (f180 6).toInt := uklo E_f183 lw_f183 (by decide)
                  have g_f183_7 : (f183 7).toInt = (f180 7).toInt := uklo E_f183 lw_f183 (by decide)
                  have g_f183_8 : (f183 8).toInt = (f180 8).toInt := uklo E_f183 lw_f183 (by decide)
                  have g_f183_9 : (f183 9).toInt = (f180 9).toInt := uklo E_f183 lw_f183 (by decide)
                  refine lv_aload_n hx hb dX12_readPlan_107 rfl (lv_at hl 3 rfl) ?_
                  refine g_get (C := RX12) (T := TX12) (N := 29) (ci := 12) (v := .ref a14) FC hKn hP i_X12 2 rfl rfl 14 (by decide) b_1132 rfl dX12_readPlan_108 ?_
                  refine lv_bipush (v := 7) hx hb dX12_readPlan_111 (by decide) ?_
                  refine lv_dup2_11 hx hb dX12_readPlan_113 rfl rfl ?_
                  refine va_iald hx hb hKn.1 hP 0 0 rfl rfl (by unfold vp_in; decide) dX12_readPlan_114 ?_
                  refine lv_topi (fun z184 e_z184 => ?_)
                  have t_z184 : 0 ≤ z184.toInt ∧ z184.toInt ≤ 4 := by rw [e_z184]; exact wk_7 a_f183
                  have q_z184 : z184.toInt = (f183 7).toInt := by rw [e_z184]; rfl
                  refine lv_iconst (v := 1) hx hb dX12_readPlan_115 (by decide) ?_
                  refine lv_iadd hx hb dX12_readPlan_116 ?_
                  refine lv_topi (fun z185 e_z185 => ?_)
                  have t_z185 : z185.toInt = z184.toInt + ((1 : Int32)).toInt := by rw [e_z185]; exact fb_addI (by omega) (by omega)
                  refine va_iast hx hb hKn.1 hP hD hS 0 0 rfl rfl (by unfold vp_in; decide) dX12_readPlan_117 (fun H locs hP hD hS => ?_)
                  have hP : va_P g.1 vwCl [(a14, .inl (g.2 0, 225, .inl (upd f183 ((7 : Int32).toNatClampNeg) z185))), (a4, .inl (g.2 1, 900, .inl mtape)), (h0, .inr (12, [.int mthrown, .ref a1, .ref a2, .ref a3, .ref a4, .int mtaped, .ref a6, .int msize, .int (u173.1 1), .int (u173.1 2), .int (u173.1 3), .int (u173.1 4), .int (u173.1 5), .int (u173.1 6), .ref a14, .ref a15, .int mgoal, .int mgoalDays, .int mgoalHearer, .ref a19, .ref a20, .int mleastOrder, .int mwordsMany, .ref a23, .ref a24, .ref a25, .ref a26, .ref a27, .ref a28]))] H := hP
                  have hD : va_D A [(a14, .inl (g.2 0, 225, .inl (upd f183 ((7 : Int32).toNatClampNeg) z185))), (a4, .inl (g.2 1, 900, .inl mtape)), (h0, .inr (12, [.int mthrown, .ref a1, .ref a2, .ref a3, .ref a4, .int mtaped, .ref a6, .int msize, .int (u173.1 1), .int (u173.1 2), .int (u173.1 3), .int (u173.1 4), .int (u173.1 5), .int (u173.1 6), .ref a14, .ref a15, .int mgoal, .int mgoalDays, .int mgoalHearer, .ref a19, .ref a20, .int mleastOrder, .int mwordsMany, .ref a23, .ref a24, .ref a25, .ref a26, .ref a27, .ref a28]))] := hD
                  have a_f186 : wok (upd f183 ((7 : Int32).toNatClampNeg) z185) := (wk_uc (k := 7) a_f183 (by omega))
                  refine gn_f (upd f183 ((7 : Int32).toNatClampNeg) z185) (fun f186 E_f186 => ?_)
                  rw [E_f186] at hP hD a_f186
                  have g_f186_0 : (f186 0).toInt = (f183 0).toInt := by rw [← E_f186, show ((7 : Int32).toNatClampNeg : Nat) = 7 from rfl, uo (by decide)]
                  have g_f186_2 : (f186 2).toInt = (f183 2).toInt := by rw [← E_f186, show ((7 : Int32).toNatClampNeg : Nat) = 7 from rfl, uo (by decide)]
                  have g_f186_5 : (f186 5).toInt = (f183 5).toInt := by rw [← E_f186, show ((7 : Int32).toNatClampNeg : Nat) = 7 from rfl, uo (by decide)]
                  have g_f186_6 : (f186 6).toInt = (f183 6).toInt := by rw [← E_f186, show ((7 : Int32).toNatClampNeg : Nat) = 7 from rfl, uo (by decide)]
                  have g_f186_7 : (f186 7).toInt = z185.toInt := by rw [← E_f186, show ((7 : Int32).toNatClampNeg : Nat) = 7 from rfl, pk_us]
                  have g_f186_8 : (f186 8).toInt = (f183 8).toInt := by rw [← E_f186, show ((7 : Int32).toNatClampNeg : Nat) = 7 from rfl, uo (by decide)]
                  have g_f186_9 : (f186 9).toInt = (f183 9).toInt := by rw [← E_f186, show ((7 : Int32).toNatClampNeg : Nat) = 7 from rfl, uo (by decide)]
                  exact rt_v FX ((fun k => match k with | 0 => 0 | 1 => u173.1 1 | 2 => u173.1 2 | 3 => u173.1 3 | 4 => u173.1 4 | 5 => u173.1 5 | 6 => u173.1 6 | _ => 0), (fun k => match k with | 0 => f186 | _ => fun _ => 0), (fun _ => fun _ => 0)) rfl ⟨(show 0 ≤ (u173.1 1).toInt ∧ (u173.1 1).toInt ≤ 900 by first | assumption | omega), (show 0 ≤ (u173.1 2).toInt ∧ (u173.1 2).toInt ≤ 900 by first | assumption | omega), (show 0 ≤ (u173.1 3).toInt ∧ (u173.1 3).toInt ≤ 4 by first | assumption | omega), (show 0 ≤ (u173.1 4).toInt ∧ (u173.1 4).toInt ≤ 99999 by first | assumption | omega), (show 0 ≤ (u173.1 5).toInt ∧ (u173.1 5).toInt ≤ 3 by first | assumption | omega), a_f186, (show 5 * mat.toInt - mtoken.toInt ≤ 5 * (u173.1 1).toInt - (u173.1 3).toInt from (Int.le_trans (hi123) q174_5)), (show (u173.1 5).toInt = 0 → mfaultKind.toInt = 0 from (fun h9 => (hi124 q174_6g))), (show ((f186) 0).toInt = (mfresh 0).toInt ∧ ((f186) 2).toInt = (mfresh 2).toInt from ⟨(g_f186_0.trans (g_f183_0.trans (g_f180_0.trans hi125))), (g_f186_2.trans (g_f183_2.trans (g_f180_2.trans hi126)))⟩)⟩ (hP.sub [2, 1, 0] rfl) (hD.sub [2, 1, 0] (by decide) rfl) hS (Nat.le_of_ble_eq_true rfl) (Nat.le_of_ble_eq_true rfl) dX12_readPlan_118
              · skip
                clear q174_6
                clear q174_7
                have q174_8g := q174_8 c177
                clear q174_8
                clear q174_9
                refine tp_i (v := 0) (Int32.toInt_inj.mp (show (u175.1 0).toInt = (0 : Int32).toInt by rw [show (0 : Int32).toInt = 0 by decide]; omega)) ?_
                refine lv_if_ne (tgt := 78) hx hb dX12_readPlan_74 (by decide) (fun h => absurd h (by decide)) (fun _ => ?_)
                exact rt_v FX ((fun k => match k with | 0 => 0 | 1 => u173.1 1 | 2 => u173.1 2 | 3 => u173.1 3 | 4 => u173.1 4 | 5 => u173.1 5 | 6 => u173.1 6 | _ => 0), (fun k => match k with | 0 => x121 | _ => fun _ => 0), (fun _ => fun _ => 0)) rfl ⟨(show 0 ≤ (u173.1 1).toInt ∧ (u173.1 1).toInt ≤ 900 by first | assumption | omega), (show 0 ≤ (u173.1 2).toInt ∧ (u173.1 2).toInt ≤ 900 by first | assumption | omega), (show 0 ≤ (u173.1 3).toInt ∧ (u173.1 3).toInt ≤ 4 by first | assumption | omega), (show 0 ≤ (u173.1 4).toInt ∧ (u173.1 4).toInt ≤ 99999 by first | assumption | omega), (show 0 ≤ (u173.1 5).toInt ∧ (u173.1 5).toInt ≤ 3 by first | assumption | omega), h_x121, (show 5 * mat.toInt - mtoken.toInt ≤ 5 * (u173.1 1).toInt - (u173.1 3).toInt from (Int.le_trans (hi123) q174_5)), (show (u173.1 5).toInt = 0 → mfaultKind.toInt = 0 from (fun h9 => (absurd h9 c177))), (show ((x121) 0).toInt = (mfresh 0).toInt ∧ ((x121) 2).toInt = (mfresh 2).toInt from ⟨hi125, hi126⟩)⟩ (hP.sub [2, 1, 0] rfl) (hD.sub [2, 1, 0] (by decide) rfl) hS (Nat.le_of_ble_eq_true rfl) (Nat.le_of_ble_eq_true rfl) dX12_readPlan_77
            · have c171 := k_nle (a := z170.toInt) (b := x118.toInt) rfl rfl c171
              refine lv_aload_n hx hb dX12_readPlan_50 rfl (lv_at hl 2 rfl) ?_
              refine lv_iconst (v := 3) hx hb dX12_readPlan_51 (by decide) ?_
              have kc3 : (3 : Int32).toInt = 3 := by decide
              refine call_V (As := [.int 3]) (rest := []) (wr := [(a4, .inl (g.2 1, 900, .inl mtape)), (a14, .inl (g.2 0, 225, .inl x121))]) FC hKn hZ (k_X12_errs l g h0 a1 a2 a3 a4 a6 a14 a15 a19 a20 a23 a24 a25 a26 a27 a28 mthrown mtaped msize x115 x116 x117 x118 x119 x120 mgoal mgoalDays mgoalHearer mleastOrder mwordsMany ((3 : Int32)) (by first | assumption | omega) (by first | assumption | omega) (by first | assumption | omega) (by first | assumption | omega) (by first | assumption | omega) (by first | assumption | omega) (by first | assumption | omega) (by first | assumption | omega) (by first | assumption | omega) (by first | assumption | omega)) m_yX12_errs b_1129 (ci := 12) rfl rfl rfl hP hD hS hA [2] [0, 1] rfl (by decide) rfl (by decide) (by decide) rfl hl.1 rfl (Nat.le_of_ble_eq_true rfl) dX12_readPlan_52 ⟨(Nat.le_of_ble_eq_true rfl), (Nat.le_of_ble_eq_true rfl)⟩ ⟨(Nat.le_of_ble_eq_true rfl), (Nat.le_of_ble_eq_true rfl)⟩ (fun u187 H locs q188 hP hD hS => ?_)
              have q188_0 : 1 ≤ (u187.1 1).toInt ∧ (u187.1 1).toInt ≤ 3 := q188
              have hP : va_P g.1 vwCl [(a4, .inl (g.2 1, 900, .inl mtape)), (a14, .inl (g.2 0, 225, .inl x121)), (h0, .inr (12, [.int mthrown, .ref a1, .ref a2, .ref a3, .ref a4, .int mtaped, .ref a6, .int msize, .int x115, .int x116, .int x117, .int x118, .int (u187.1 1), .int (u187.1 2), .ref a14, .ref a15, .int mgoal, .int mgoalDays, .int mgoalHearer, .ref a19, .ref a20, .int mleastOrder, .int mwordsMany, .ref a23, .ref a24, .ref a25, .ref a26, .ref a27, .ref a28]))] H := hP
              have hD : va_D A [(a4, .inl (g.2 1, 900, .inl mtape)), (a14, .inl (g.2 0, 225, .inl x121)), (h0, .inr (12, [.int mthrown, .ref a1, .ref a2, .ref a3, .ref a4, .int mtaped, .ref a6, .int msize, .int x115, .int x116, .int x117, .int x118, .int (u187.1 1), .int (u187.1 2), .ref a14, .ref a15, .int mgoal, .int mgoalDays, .int mgoalHearer, .ref a19, .ref a20, .int mleastOrder, .int mwordsMany, .ref a23, .ref a24, .ref a25, .ref a26, .ref a27, .ref a28]))] := hD
              refine W.eq (g2 := F0 m 55 ls []) rfl ?_
              refine lv_aload_n hx hb dX12_readPlan_55 rfl (lv_at hl 2 rfl) ?_
              refine lv_iconst (v := 0) hx hb dX12_readPlan_56 (by decide) ?_
              refine lv_aload_n hx hb dX12_readPlan_57 rfl (lv_at hl 2 rfl) ?_
              refine g_get (C := RX12) (T := TX12) (N := 29) (ci := 12) (v := .ref a14) FC hKn hP i_X12 2 rfl rfl 14 (by decide) b_1132 rfl dX12_readPlan_58 ?_
              refine lv_bipush (v := 6) hx hb dX12_readPlan_61 (by decide) ?_
              refine va_iald hx hb hKn.1 hP 1 0 rfl rfl (by unfold vp_in; decide) dX12_readPlan_63 ?_
              refine tp_i (v := z170) e_z170.symm ?_
              refine lv_iconst (v := 1) hx hb dX12_readPlan_64 (by decide) ?_
              refine lv_isub hx hb dX12_readPlan_65 ?_
              have kc1 : (1 : Int32).toInt = 1 := by decide
              refine lv_topi (fun z189 e_z189 => ?_)
              have t_z189 : z189.toInt = z170.toInt - ((1 : Int32)).toInt := by rw [e_z189]; exact fb_subI (by omega) (by omega)
              have kc0 : (0 : Int32).toInt = 0 := by decide
              refine call_V (As := [.int 0, .int z189]) (rest := []) (wr := [(a14, .inl (g.2 0, 225, .inl x121))]) FC hKn hZ (k_X12_number l g h0 a1 a2 a3 a4 a6 a14 a15 a19 a20 a23 a24 a25 a26 a27 a28 mthrown mtaped msize x115 x116 x117 x118 (u187.1 1) (u187.1 2) mgoal mgoalDays mgoalHearer mleastOrder mwordsMany mtape ((0 : Int32)) z189 (by first | assumption | omega) (by first | assumption | omega) (by first | assumption | omega) (by first | assumption | omega) (by first | assumption | omega) (by first | assumption | omega) (by first | assumption | omega) (by first | assumption | omega) (by first | assumption | omega)) m_yX12_number b_1131 (ci := 12) rfl rfl rfl hP hD hS hA [2, 0] [1] rfl (by decide) rfl (by decide) (by decide) rfl hl.1 rfl (Nat.le_of_ble_eq_true rfl) dX12_readPlan_66 ⟨(Nat.le_of_ble_eq_true rfl), (Nat.le_of_ble_eq_true rfl)⟩ ⟨(Nat.le_of_ble_eq_true rfl), (Nat.le_of_ble_eq_true rfl)⟩ (fun u190 H locs q191 hP hD hS => ?_)
              obtain ⟨q191_0, q191_1, q191_2, q191_3, q191_4, q191_5, q191_6, q191_7, q191_8, q191_9⟩ := q191
              have hP : va_P g.1 vwCl [(a14, .inl (g.2 0, 225, .inl x121)), (h0, .inr (12, [.int mthrown, .ref a1, .ref a2, .ref a3, .ref a4, .int mtaped, .ref a6, .int msize, .int (u190.1 1), .int (u190.1 2), .int (u190.1 3), .int (u190.1 4), .int (u190.1 5), .int (u190.1 6), .ref a14, .ref a15, .int mgoal, .int mgoalDays, .int mgoalHearer, .ref a19, .ref a20, .int mleastOrder, .int mwordsMany, .ref a23, .ref a24, .ref a25, .ref a26, .ref a27, .ref a28])), (a4, .inl (g.2 1, 900, .inl mtape))] H := hP
              have hD : va_D A [(a14, .inl (g.2 0, 225, .inl x121)), (h0, .inr (12, [.int mthrown, .ref a1, .ref a2, .ref a3, .ref a4, .int mtaped, .ref a6, .int msize, .int (u190.1 1), .int (u190.1 2), .int (u190.1 3), .int (u190.1 4), .int (u190.1 5), .int (u190.1 6), .ref a14, .ref a15, .int mgoal, .int mgoalDays, .int mgoalHearer, .ref a19, .ref a20, .int mleastOrder, .int mwordsMany, .ref a23, .ref a24, .ref a25, .ref a26, .ref a27, .ref a28])), (a4, .inl (g.2 1, 900, .inl mtape))] := hD
              refine W.eq (g2 := F0 m 69 ls [.int (u190.1 0)]) rfl ?_
              refine lv_istore_n (lv' := [(3, .int (u190.1 0)), (2, .int x114), (1, .int z3), (0, .ref h0)]) hx hb dX12_readPlan_69 rfl hl (by decide) rfl (fun ls hl => ?_)
              refine lv_aload_n hx hb dX12_readPlan_70 rfl (lv_at hl 3 rfl) ?_
              refine call_V (As := []) (rest := []) (wr := [(a14, .inl (g.2 0, 225, .inl x121)), (a4, .inl (g.2 1, 900, .inl mtape))]) FC hKn hZ (k_X12_good l g h0 a1 a2 a3 a4 a6 a14 a15 a19 a20 a23 a24 a25 a26 a27 a28 mthrown mtaped msize (u190.1 1) (u190.1 2) (u190.1 3) (u190.1 4) (u190.1 5) (u190.1 6) mgoal mgoalDays mgoalHearer mleastOrder mwordsMany (by first | assumption | omega) (by first | assumption | omega) (by first | assumption | omega) (by first | assumption | omega) (by first | assumption | omega) (by first | assumption | omega) (by first | assumption | omega) (by first | assumption | omega) (by first | assumption | omega)) m_yX12_good b_1117 (ci := 12) rfl rfl rfl hP hD hS hA [1] [0, 2] rfl (by decide) rfl (by decide) (by decide) rfl hl.1 rfl (Nat.le_of_ble_eq_true rfl) dX12_readPlan_71 ⟨(Nat.le_of_ble_eq_true rfl), (Nat.le_of_ble_eq_true rfl)⟩ ⟨(Nat.le_of_ble_eq_true rfl), (Nat.le_of_ble_eq_true rfl)⟩ (fun u192 H locs q193 hP hD hS => ?_)
              obtain ⟨q193_0, q193_1⟩ := q193
              have hP : va_P g.1 vwCl [(a14, .inl (g.2 0, 225, .inl x121)), (a4, .inl (g.2 1, 900, .inl mtape)), (h0, .inr (12, [.int mthrown, .ref a1, .ref a2, .ref a3, .ref a4, .int mtaped, .ref a6, .int msize, .int (u190.1 1), .int (u190.1 2), .int (u190.1 3), .int (u190.1 4), .int (u190.1 5), .int (u190.1 6), .ref a14, .ref a15, .int mgoal, .int mgoalDays, .int mgoalHearer, .ref a19, .ref a20, .int mleastOrder, .int mwordsMany, .ref a23, .ref a24, .ref a25, .ref a26, .ref a27, .ref a28]))] H := hP
              have hD : va_D A [(a14, .inl (g.2 0, 225, .inl x121)), (a4, .inl (g.2 1, 900, .inl mtape)), (h0, .inr (12, [.int mthrown, .ref a1, .ref a2, .ref a3, .ref a4, .int mtaped, .ref a6, .int msize, .int (u190.1 1), .int (u190.1 2), .int (u190.1 3), .int (u190.1 4), .int (u190.1 5), .int (u190.1 6), .ref a14, .ref a15, .int mgoal, .int mgoalDays, .int mgoalHearer, .ref a19, .ref a20, .int mleastOrder, .int mwordsMany, .ref a23, .ref a24, .ref a25, .ref a26, .ref a27, .ref a28]))] := hD
              refine W.eq (g2 := F0 m 74 ls [.int (u192.1 0)]) rfl ?_
              rcases (show (u190.1 5).toInt = 0 ∨ (u190.1 5).toInt ≠ 0 by omega) with c194 | c194
              · skip
                have q191_6g := q191_6 c194
                clear q191_6
                have q191_7g := q191_7 c194
                clear q191_7
                clear q191_8
                have q191_9g := q191_9 c194
                clear q191_9
                refine tp_i (v := 1) (Int32.toInt_inj.mp (show (u192.1 0).toInt = (1 : Int32).toInt by rw [show (1 : Int32).toInt = 1 by decide]; omega)) ?_
                refine lv_if_ne (tgt := 78) hx hb dX12_readPlan_74 (by decide) (fun _ => ?_) (fun h => absurd h (by decide))
                refine lv_aload_n hx hb dX12_readPlan_78 rfl (lv_at hl 3 rfl) ?_
                refine g_get (C := RX12) (T := TX12) (N := 29) (ci := 12) (v := .ref a14) FC hKn hP i_X12 2 rfl rfl 14 (by decide) b_1132 rfl dX12_readPlan_79 ?_
                refine lv_iload_n hx hb dX12_readPlan_82 rfl (lv_at hl 2 rfl) ?_
                refine lv_iconst (v := 1) hx hb dX12_readPlan_83 (by decide) ?_
                refine lv_iadd hx hb dX12_readPlan_84 ?_
                refine lv_topi (fun z195 e_z195 => ?_)
                have t_z195 : z195.toInt = z3.toInt + ((1 : Int32)).toInt := by rw [e_z195]; exact fb_addI (by omega) (by omega)
                refine lv_iload_n hx hb dX12_readPlan_85 rfl (lv_at hl 1 rfl) ?_
                refine lv_iadd hx hb dX12_readPlan_86 ?_
                refine lv_topi (fun z196 e_z196 => ?_)
                have t_z196 : z196.toInt = z195.toInt + x114.toInt := by rw [e_z196]; exact fb_addI (by omega) (by omega)
                refine lv_iload_n hx hb dX12_readPlan_87 rfl (lv_at hl 0 rfl) ?_
                refine va_iast hx hb hKn.1 hP hD hS 0 0 rfl rfl (vp_in_iff.mpr ⟨by omega, by omega⟩) dX12_readPlan_88 (fun H locs hP hD hS => ?_)
                have hP : va_P g.1 vwCl [(a14, .inl (g.2 0, 225, .inl (upd x121 (z196.toNatClampNeg) (u190.1 0)))), (a4, .inl (g.2 1, 900, .inl mtape)), (h0, .inr (12, [.int mthrown, .ref a1, .ref a2, .ref a3, .ref a4, .int mtaped, .ref a6, .int msize, .int (u190.1 1), .int (u190.1 2), .int (u190.1 3), .int (u190.1 4), .int (u190.1 5), .int (u190.1 6), .ref a14, .ref a15, .int mgoal, .int mgoalDays, .int mgoalHearer, .ref a19, .ref a20, .int mleastOrder, .int mwordsMany, .ref a23, .ref a24, .ref a25, .ref a26, .ref a27, .ref a28]))] H := hP
                have hD : va_D A [(a14, .inl (g.2 0, 225, .inl (upd x121 (z196.toNatClampNeg) (u190.1 0)))), (a4, .inl (g.2 1, 900, .inl mtape)), (h0, .inr (12, [.int mthrown, .ref a1, .ref a2, .ref a3, .ref a4, .int mtaped, .ref a6, .int msize, .int (u190.1 1), .int (u190.1 2), .int (u190.1 3), .int (u190.1 4), .int (u190.1 5), .int (u190.1 6), .ref a14, .ref a15, .int mgoal, .int mgoalDays, .int mgoalHearer, .ref a19, .ref a20, .int mleastOrder, .int mwordsMany, .ref a23, .ref a24, .ref a25, .ref a26, .ref a27, .ref a28]))] := hD
                have a_f197 : wok (upd x121 (z196.toNatClampNeg) (u190.1 0)) := (wx_p h_x121 (q := (mfresh 7).toInt.toNat) (n := x114) (by omega) (by omega) (by omega) (by omega) (by omega))
                refine gn_f (upd x121 (z196.toNatClampNeg) (u190.1 0)) (fun f197 E_f197 => ?_)
                rw [E_f197] at hP hD a_f197
                have lw_f197 : (11 : Int) ≤ z196.toInt := by (try clear q191_6); (try clear q191_7); (try clear q191_8); (try clear q191_9); (try clear hi124); omega
                have g_f197_0 : (f197 0).toInt = (x121 0).toInt := uklo E_f197 lw_f197 (by decide)
                have g_f197_2 : (f197 2).toInt = (x121 2).toInt := uklo E_f197 lw_f197 (by decide)
                have g_f197_5 : (f197 5).toInt = (x121 5).toInt := uklo E_f197 lw_f197 (by decide)
                have g_f197_6 : (f197 6).toInt = (x121 6).toInt := uklo E_f197 lw_f197 (by decide)
                have g_f197_7 : (f197 7).toInt = (x121 7).toInt := uklo E_f197 lw_f197 (by decide)
                have g_f197_8 : (f197 8).toInt = (x121 8).toInt := uklo E_f197 lw_f197 (by decide)
                have g_f197_9 : (f197 9).toInt = (x121 9).toInt := uklo E_f197 lw_f197 (by decide)
                obtain ⟨z198, e_z198⟩ : ∃ y : Int32, y = x114 + 1 := ⟨_, rfl⟩
                have t_z198 : z198.toInt = x114.toInt + 1 := by rw [e_z198]; exact addk (by decide) (by omega) (by omega)
                refine lv_iinc (v := z198) (lv' := [(2, .int z198), (3, .int (u190.1 0)), (1, .int z3), (0, .ref h0)]) hx hb dX12_readPlan_89 hl (k := 1) rfl (by rw [e_z198]; rfl) (by decide) rfl (fun ls hl => ?_)
                refine lv_aload_n hx hb dX12_readPlan_92 rfl (lv_at hl 3 rfl) ?_
                refine g_get (C := RX12) (T := TX12) (N := 29) (ci := 12) (v := .int (u190.1 3)) FC hKn hP i_X12 2 rfl rfl 10 (by decide) b_1114 rfl dX12_readPlan_93 ?_
                refine lv_iconst (v := 3) hx hb dX12_readPlan_96 (by decide) ?_
                refine lv_icmp_ne (tgt := 16) hx hb dX12_readPlan_97 (by decide) (fun c199 => ?_) (fun c199 => ?_)
                · have c199 := k_ne (a := (u190.1 3).toInt) (b := 3) rfl (by decide) c199
                  exact ih130 z198 (u190.1 1) (u190.1 2) (u190.1 3) (u190.1 4) (u190.1 5) (u190.1 6) f197 _ _ ls (by first | assumption | omega) (by first | assumption | omega) (by first | assumption | omega) (by first | assumption | omega) (by first | assumption | omega) (by first | assumption | omega) a_f197 (by rw [← E_f197]; exact pl_s (n := x114) hi122 (by omega) (by omega) (by omega) (by omega)) (Int.le_trans (hi123) q191_5) (fun h9 => (absurd q191_6g (by omega))) (g_f197_0.trans hi125) (g_f197_2.trans hi126) (g_f197_6.trans hi127) (g_f197_7.trans hi128) (msr hn132 q191_9g (by omega) (by omega)) (hP.sub [2, 1, 0] rfl) (hD.sub [2, 1, 0] (by decide) rfl) hS (lv_sub hl [0, 2, 3] rfl)
                · have c199 := k_eq (a := (u190.1 3).toInt) (b := 3) rfl (by decide) c199
                  refine lv_aload_n hx hb dX12_readPlan_100 rfl (lv_at hl 3 rfl) ?_
                  refine g_get (C := RX12) (T := TX12) (N := 29) (ci := 12) (v := .ref a14) FC hKn hP i_X12 2 rfl rfl 14 (by decide) b_1132 rfl dX12_readPlan_101 ?_
                  refine lv_iload_n hx hb dX12_readPlan_104 rfl (lv_at hl 2 rfl) ?_
                  refine lv_iload_n hx hb dX12_readPlan_105 rfl (lv_at hl 0 rfl) ?_
                  refine va_iast hx hb hKn.1 hP hD hS 0 0 rfl rfl (vp_in_iff.mpr ⟨by omega, by omega⟩) dX12_readPlan_106 (fun H locs hP hD hS => ?_)
                  have hP : va_P g.1 vwCl [(a14, .inl (g.2 0, 225, .inl (upd f197 (z3.toNatClampNeg) z198))), (a4, .inl (g.2 1, 900, .inl mtape)), (h0, .inr (12, [.int mthrown, .ref a1, .ref a2, .ref a3, .ref a4, .int mtaped, .ref a6, .int msize, .int (u190.1 1), .int (u190.1 2), .int (u190.1 3), .int (u190.1 4), .int (u190.1 5), .int (u190.1 6), .ref a14, .ref a15, .int mgoal, .int mgoalDays, .int mgoalHearer, .ref a19, .ref a20, .int mleastOrder, .int mwordsMany, .ref a23, .ref a24, .ref a25, .ref a26, .ref a27, .ref a28]))] H := hP
                  have hD : va_D A [(a14, .inl (g.2 0, 225, .inl (upd f197 (z3.toNatClampNeg) z198))), (a4, .inl (g.2 1, 900, .inl mtape)), (h0, .inr (12, [.int mthrown, .ref a1, .ref a2, .ref a3, .ref a4, .int mtaped, .ref a6, .int msize, .int (u190.1 1), .int (u190.1 2), .int (u190.1 3), .int (u190.1 4), .int (u190.1 5), .int (u190.1 6), .ref a14, .ref a15, .int mgoal, .int mgoalDays, .int mgoalHearer, .ref a19, .ref a20, .int mleastOrder, .int mwordsMany, .ref a23, .ref a24, .ref a25, .ref a26, .ref a27, .ref a28]))] := hD
                  have a_f200 : wok (upd f197 (z3.toNatClampNeg) z198) := (wx_l a_f197 (q := (mfresh 7).toInt.toNat) (by omega) (by omega) (by omega) (by rw [← E_f197]; exact pl_s (n := x114) hi122 (by omega) (by omega) (by omega) (by omega)))
                  refine gn_f (upd f197 (z3.toNatClampNeg) z198) (fun f200 E_f200 => ?_)
                  rw [E_f200] at hP hD a_f200
                  have lw_f200 : (11 : Int) ≤ z3.toInt := by (try clear q191_6); (try clear q191_7); (try clear q191_8); (try clear q191_9); (try clear hi124); omega
                  have g_f200_0 : (f200 0).toInt = (f197 0).toInt := uklo E_f200 lw_f200 (by decide)
                  have g_f200_2 : (f200 2).toInt = (f197 2).toInt := uklo E_f200 lw_f200 (by decide)
                  have g_f200_5 : (f200 5).toInt = (f197 5).toInt := uklo E_f200 lw_f200 (by decide)
                  have g_f200_6 : (f200 6).toInt = (f197 6).toInt := uklo E_f200 lw_f200 (by decide)
                  have g_f200_7 : (f200 7).toInt = (f197 7).toInt := uklo E_f200 lw_f200 (by decide)
                  have g_f200_8 : (f200 8).toInt = (f197 8).toInt := uklo E_f200 lw_f200 (by decide)
                  have g_f200_9 : (f200 9).toInt = (f197 9).toInt := uklo E_f200 lw_f200 (by decide)
                  refine lv_aload_n hx hb dX12_readPlan_107 rfl (lv_at hl 3 rfl) ?_
                  refine g_get (C := RX12) (T := TX12) (N := 29) (ci := 12) (v := .ref a14) FC hKn hP i_X12 2 rfl rfl 14 (by decide) b_1132 rfl dX12_readPlan_108 ?_
                  refine lv_bipush (v := 7) hx hb dX12_readPlan_111 (by decide) ?_
                  refine lv_dup2_11 hx hb dX12_readPlan_113 rfl rfl ?_
                  refine va_iald hx hb hKn.1 hP 0 0 rfl rfl (by unfold vp_in; decide) dX12_readPlan_114 ?_
                  refine lv_topi (fun z201 e_z201 => ?_)
                  have t_z201 : 0 ≤ z201.toInt ∧ z201.toInt ≤ 4 := by rw [e_z201]; exact wk_7 a_f200
                  have q_z201 : z201.toInt = (f200 7).toInt := by rw [e_z201]; rfl
                  refine lv_iconst (v := 1) hx hb dX12_readPlan_115 (by decide) ?_
                  refine lv_iadd hx hb dX12_readPlan_116 ?_
                  refine lv_topi (fun z202 e_z202 => ?_)
                  have t_z202 : z202.toInt = z201.toInt + ((1 : Int32)).toInt := by rw [e_z202]; exact fb_addI (by omega) (by omega)
                  refine va_iast hx hb hKn.1 hP hD hS 0 0 rfl rfl (by unfold vp_in; decide) dX12_readPlan_117 (fun H locs hP hD hS => ?_)
                  have hP : va_P g.1 vwCl [(a14, .inl (g.2 0, 225, .inl (upd f200 ((7 : Int32).toNatClampNeg) z202))), (a4, .inl (g.2 1, 900, .inl mtape)), (h0, .inr (12, [.int mthrown, .ref a1, .ref a2, .ref a3, .ref a4, .int mtaped, .ref a6, .int msize, .int (u190.1 1), .int (u190.1 2), .int (u190.1 3), .int (u190.1 4), .int (u190.1 5), .int (u190.1 6), .ref a14, .ref a15, .int mgoal, .int mgoalDays, .int mgoalHearer, .ref a19, .ref a20, .int mleastOrder, .int mwordsMany, .ref a23, .ref a24, .ref a25, .ref a26, .ref a27, .ref a28]))] H := hP
                  have hD : va_D A [(a14, .inl (g.2 0, 225, .inl (upd f200 ((7 : Int32).toNatClampNeg) z202))), (a4, .inl (g.2 1, 900, .inl mtape)), (h0, .inr (12, [.int mthrown, .ref a1, .ref a2, .ref a3, .ref a4, .int mtaped, .ref a6, .int msize, .int (u190.1 1), .int (u190.1 2), .int (u190.1 3), .int (u190.1 4), .int (u190.1 5), .int (u190.1 6), .ref a14, .ref a15, .int mgoal, .int mgoalDays, .int mgoalHearer, .ref a19, .ref a20, .int mleastOrder, .int mwordsMany, .ref a23, .ref a24, .ref a25, .ref a26, .ref a27, .ref a28]))] := hD
                  have a_f203 : wok (upd f200 ((7 : Int32).toNatClampNeg) z202) := (wk_uc (k := 7) a_f200 (by omega))
                  refine gn_f (upd f200 ((7 : Int32).toNatClampNeg) z202) (fun f203 E_f203 => ?_)
                  rw [E_f203] at hP hD a_f203
                  have g_f203_0 : (f203 0).toInt = (f200 0).toInt := by rw [← E_f203, show ((7 : Int32).toNatClampNeg : Nat) = 7 from rfl, uo (by decide)]
                  have g_f203_2 : (f203 2).toInt = (f200 2).toInt := by rw [← E_f203, show ((7 : Int32).toNatClampNeg : Nat) = 7 from rfl, uo (by decide)]
                  have g_f203_5 : (f203 5).toInt = (f200 5).toInt := by rw [← E_f203, show ((7 : Int32).toNatClampNeg : Nat) = 7 from rfl, uo (by decide)]
                  have g_f203_6 : (f203 6).toInt = (f200 6).toInt := by rw [← E_f203, show ((7 : Int32).toNatClampNeg : Nat) = 7 from rfl, uo (by decide)]
                  have g_f203_7 : (f203 7).toInt = z202.toInt := by rw [← E_f203, show ((7 : Int32).toNatClampNeg : Nat) = 7 from rfl, pk_us]
                  have g_f203_8 : (f203 8).toInt = (f200 8).toInt := by rw [← E_f203, show ((7 : Int32).toNatClampNeg : Nat) = 7 from rfl, uo (by decide)]
                  have g_f203_9 : (f203 9).toInt = (f200 9).toInt := by rw [← E_f203, show ((7 : Int32).toNatClampNeg : Nat) = 7 from rfl, uo (by decide)]
                  exact rt_v FX ((fun k => match k with | 0 => 0 | 1 => u190.1 1 | 2 => u190.1 2 | 3 => u190.1 3 | 4 => u190.1 4 | 5 => u190.1 5 | 6 => u190.1 6 | _ => 0), (fun k => match k with | 0 => f203 | _ => fun _ => 0), (fun _ => fun _ => 0)) rfl ⟨(show 0 ≤ (u190.1 1).toInt ∧ (u190.1 1).toInt ≤ 900 by first | assumption | omega), (show 0 ≤ (u190.1 2).toInt ∧ (u190.1 2).toInt ≤ 900 by first | assumption | omega), (show 0 ≤ (u190.1 3).toInt ∧ (u190.1 3).toInt ≤ 4 by first | assumption | omega), (show 0 ≤ (u190.1 4).toInt ∧ (u190.1 4).toInt ≤ 99999 by first | assumption | omega), (show 0 ≤ (u190.1 5).toInt ∧ (u190.1 5).toInt ≤ 3 by first | assumption | omega), a_f203, (show 5 * mat.toInt - mtoken.toInt ≤ 5 * (u190.1 1).toInt - (u190.1 3).toInt from (Int.le_trans (hi123) q191_5)), (show (u190.1 5).toInt = 0 → mfaultKind.toInt = 0 from (fun h9 => (absurd q191_6g (by omega)))), (show ((f203) 0).toInt = (mfresh 0).toInt ∧ ((f203) 2).toInt = (mfresh 2).toInt from ⟨(g_f203_0.trans (g_f200_0.trans (g_f197_0.trans hi125))), (g_f203_2.trans (g_f200_2.trans (g_f197_2.trans hi126)))⟩)⟩ (hP.sub [2, 1, 0] rfl) (hD.sub [2, 1, 0] (by decide) rfl) hS (Nat.le_of_ble_eq_true rfl) (Nat.le_of_ble_eq_true rfl) dX12_readPlan_118
              · skip
                clear q191_6
                clear q191_7
                have q191_8g := q191_8 c194
                clear q191_8
                clear q191_9
                refine tp_i (v := 0) (Int32.toInt_inj.mp (show (u192.1 0).toInt = (0 : Int32).toInt by rw [show (0 : Int32).toInt = 0 by decide]; omega)) ?_
                refine lv_if_ne (tgt := 78) hx hb dX12_readPlan_74 (by decide) (fun h => absurd h (by decide)) (fun _ => ?_)
                exact rt_v FX ((fun k => match k with | 0 => 0 | 1 => u190.1 1 | 2 => u190.1 2 | 3 => u190.1 3 | 4 => u190.1 4 | 5 => u190.1 5 | 6 => u190.1 6 | _ => 0), (fun k => match k with | 0 => x121 | _ => fun _ => 0), (fun _ => fun _ => 0)) rfl ⟨(show 0 ≤ (u190.1 1).toInt ∧ (u190.1 1).toInt ≤ 900 by first | assumption | omega), (show 0 ≤ (u190.1 2).toInt ∧ (u190.1 2).toInt ≤ 900 by first | assumption | omega), (show 0 ≤ (u190.1 3).toInt ∧ (u190.1 3).toInt ≤ 4 by first | assumption | omega), (show 0 ≤ (u190.1 4).toInt ∧ (u190.1 4).toInt ≤ 99999 by first | assumption | omega), (show 0 ≤ (u190.1 5).toInt ∧ (u190.1 5).toInt ≤ 3 by first | assumption | omega), h_x121, (show 5 * mat.toInt - mtoken.toInt ≤ 5 * (u190.1 1).toInt - (u190.1 3).toInt from (Int.le_trans (hi123) q191_5)), (show (u190.1 5).toInt = 0 → mfaultKind.toInt = 0 from (fun h9 => (absurd h9 c194))), (show ((x121) 0).toInt = (mfresh 0).toInt ∧ ((x121) 2).toInt = (mfresh 2).toInt from ⟨hi125, hi126⟩)⟩ (hP.sub [2, 1, 0] rfl) (hD.sub [2, 1, 0] (by decide) rfl) hS (Nat.le_of_ble_eq_true rfl) (Nat.le_of_ble_eq_true rfl) dX12_readPlan_77
        · skip
          refine tp_i (v := 0) (Int32.toInt_inj.mp (show (u150.1 0).toInt = (0 : Int32).toInt by rw [show (0 : Int32).toInt = 0 by decide]; omega)) ?_
          refine lv_if_eq (tgt := 55) hx hb dX12_readPlan_25 (by decide) (fun _ => ?_) (fun h => absurd h (by decide))
          refine lv_aload_n hx hb dX12_readPlan_55 rfl (lv_at hl 2 rfl) ?_
          refine lv_iconst (v := 0) hx hb dX12_readPlan_56 (by decide) ?_
          refine lv_aload_n hx hb dX12_readPlan_57 rfl (lv_at hl 2 rfl) ?_
          refine g_get (C := RX12) (T := TX12) (N := 29) (ci := 12) (v := .ref a14) FC hKn hP i_X12 2 rfl rfl 14 (by decide) b_1132 rfl dX12_readPlan_58 ?_
          refine lv_bipush (v := 6) hx hb dX12_readPlan_61 (by decide) ?_
          refine va_iald hx hb hKn.1 hP 1 0 rfl rfl (by unfold vp_in; decide) dX12_readPlan_63 ?_
          refine lv_topi (fun z204 e_z204 => ?_)
          have t_z204 : 0 ≤ z204.toInt ∧ z204.toInt ≤ 8 := by rw [e_z204]; exact wk_6 h_x121
          have q_z204 : z204.toInt = (x121 6).toInt := by rw [e_z204]; rfl
          refine lv_iconst (v := 1) hx hb dX12_readPlan_64 (by decide) ?_
          refine lv_isub hx hb dX12_readPlan_65 ?_
          have kc1 : (1 : Int32).toInt = 1 := by decide
          refine lv_topi (fun z205 e_z205 => ?_)
          have t_z205 : z205.toInt = z204.toInt - ((1 : Int32)).toInt := by rw [e_z205]; exact fb_subI (by omega) (by omega)
          have kc0 : (0 : Int32).toInt = 0 := by decide
          refine call_V (As := [.int 0, .int z205]) (rest := []) (wr := [(a14, .inl (g.2 0, 225, .inl x121))]) FC hKn hZ (k_X12_number l g h0 a1 a2 a3 a4 a6 a14 a15 a19 a20 a23 a24 a25 a26 a27 a28 mthrown mtaped msize x115 x116 x117 x118 x119 x120 mgoal mgoalDays mgoalHearer mleastOrder mwordsMany mtape ((0 : Int32)) z205 (by first | assumption | omega) (by first | assumption | omega) (by first | assumption | omega) (by first | assumption | omega) (by first | assumption | omega) (by first | assumption | omega) (by first | assumption | omega) (by first | assumption | omega) (by first | assumption | omega)) m_yX12_number b_1131 (ci := 12) rfl rfl rfl hP hD hS hA [2, 0] [1] rfl (by decide) rfl (by decide) (by decide) rfl hl.1 rfl (Nat.le_of_ble_eq_true rfl) dX12_readPlan_66 ⟨(Nat.le_of_ble_eq_true rfl), (Nat.le_of_ble_eq_true rfl)⟩ ⟨(Nat.le_of_ble_eq_true rfl), (Nat.le_of_ble_eq_true rfl)⟩ (fun u206 H locs q207 hP hD hS => ?_)
          obtain ⟨q207_0, q207_1, q207_2, q207_3, q207_4, q207_5, q207_6, q207_7, q207_8, q207_9⟩ := q207
          have hP : va_P g.1 vwCl [(a14, .inl (g.2 0, 225, .inl x121)), (h0, .inr (12, [.int mthrown, .ref a1, .ref a2, .ref a3, .ref a4, .int mtaped, .ref a6, .int msize, .int (u206.1 1), .int (u206.1 2), .int (u206.1 3), .int (u206.1 4), .int (u206.1 5), .int (u206.1 6), .ref a14, .ref a15, .int mgoal, .int mgoalDays, .int mgoalHearer, .ref a19, .ref a20, .int mleastOrder, .int mwordsMany, .ref a23, .ref a24, .ref a25, .ref a26, .ref a27, .ref a28])), (a4, .inl (g.2 1, 900, .inl mtape))] H := hP
          have hD : va_D A [(a14, .inl (g.2 0, 225, .inl x121)), (h0, .inr (12, [.int mthrown, .ref a1, .ref a2, .ref a3, .ref a4, .int mtaped, .ref a6, .int msize, .int (u206.1 1), .int (u206.1 2), .int (u206.1 3), .int (u206.1 4), .int (u206.1 5), .int (u206.1 6), .ref a14, .ref a15, .int mgoal, .int mgoalDays, .int mgoalHearer, .ref a19, .ref a20, .int mleastOrder, .int mwordsMany, .ref a23, .ref a24, .ref a25, .ref a26, .ref a27, .ref a28])), (a4, .inl (g.2 1, 900, .inl mtape))] := hD
          refine W.eq (g2 := F0 m 69 ls [.int (u206.1 0)]) rfl ?_
          refine lv_istore_n (lv' := [(3, .int (u206.1 0)), (2, .int x114), (1, .int z3), (0, .ref h0)]) hx hb dX12_readPlan_69 rfl hl (by decide) rfl (fun ls hl => ?_)
          refine lv_aload_n hx hb dX12_readPlan_70 rfl (lv_at hl 3 rfl) ?_
          refine call_V (As := []) (rest := []) (wr := [(a14, .inl (g.2 0, 225, .inl x121)), (a4, .inl (g.2 1, 900, .inl mtape))]) FC hKn hZ (k_X12_good l g h0 a1 a2 a3 a4 a6 a14 a15 a19 a20 a23 a24 a25 a26 a27 a28 mthrown mtaped msize (u206.1 1) (u206.1 2) (u206.1 3) (u206.1 4) (u206.1 5) (u206.1 6) mgoal mgoalDays mgoalHearer mleastOrder mwordsMany (by first | assumption | omega) (by first | assumption | omega) (by first | assumption | omega) (by first | assumption | omega) (by first | assumption | omega) (by first | assumption | omega) (by first | assumption | omega) (by first | assumption | omega) (by first | assumption | omega)) m_yX12_good b_1117 (ci := 12) rfl rfl rfl hP hD hS hA [1] [0, 2] rfl (by decide) rfl (by decide) (by decide) rfl hl.1 rfl (Nat.le_of_ble_eq_true rfl) dX12_readPlan_71 ⟨(Nat.le_of_ble_eq_true rfl), (Nat.le_of_ble_eq_true rfl)⟩ ⟨(Nat.le_of_ble_eq_true rfl), (Nat.le_of_ble_eq_true rfl)⟩ (fun u208 H locs q209 hP hD hS => ?_)
          obtain ⟨q209_0, q209_1⟩ := q209
          have hP : va_P g.1 vwCl [(a14, .inl (g.2 0, 225, .inl x121)), (a4, .inl (g.2 1, 900, .inl mtape)), (h0, .inr (12, [.int mthrown, .ref a1, .ref a2, .ref a3, .ref a4, .int mtaped, .ref a6, .int msize, .int (u206.1 1), .int (u206.1 2), .int (u206.1 3), .int (u206.1 4), .int (u206.1 5), .int (u206.1 6), .ref a14, .ref a15, .int mgoal, .int mgoalDays, .int mgoalHearer, .ref a19, .ref a20, .int mleastOrder, .int mwordsMany, .ref a23, .ref a24, .ref a25, .ref a26, .ref a27, .ref a28]))] H := hP
          have hD : va_D A [(a14, .inl (g.2 0, 225, .inl x121)), (a4, .inl (g.2 1, 900, .inl mtape)), (h0, .inr (12, [.int mthrown, .ref a1, .ref a2, .ref a3, .ref a4, .int mtaped, .ref a6, .int msize, .int (u206.1 1), .int (u206.1 2), .int (u206.1 3), .int (u206.1 4), .int (u206.1 5), .int (u206.1 6), .ref a14, .ref a15, .int mgoal, .int mgoalDays, .int mgoalHearer, .ref a19, .ref a20, .int mleastOrder, .int mwordsMany, .ref a23, .ref a24, .ref a25, .ref a26, .ref a27, .ref a28]))] := hD
          refine W.eq (g2 := F0 m 74 ls [.int (u208.1 0)]) rfl ?_
          rcases (show (u206.1 5).toInt = 0 ∨ (u206.1 5).toInt ≠ 0 by omega) with c210 | c210
          · skip
            have q207_6g := q207_6 c210
            clear q207_6
            have q207_7g := q207_7 c210
            clear q207_7
            clear q207_8
            have q207_9g := q207_9 c210
            clear q207_9
            refine tp_i (v := 1) (Int32.toInt_inj.mp (show (u208.1 0).toInt = (1 : Int32).toInt by rw [show (1 : Int32).toInt = 1 by decide]; omega)) ?_
            refine lv_if_ne (tgt := 78) hx hb dX12_readPlan_74 (by decide) (fun _ => ?_) (fun h => absurd h (by decide))
            refine lv_aload_n hx hb dX12_readPlan_78 rfl (lv_at hl 3 rfl) ?_
            refine g_get (C := RX12) (T := TX12) (N := 29) (ci := 12) (v := .ref a14) FC hKn hP i_X12 2 rfl rfl 14 (by decide) b_1132 rfl dX12_readPlan_79 ?_
            refine lv_iload_n hx hb dX12_readPlan_82 rfl (lv_at hl 2 rfl) ?_
            refine lv_iconst (v := 1) hx hb dX12_readPlan_83 (by decide) ?_
            refine lv_iadd hx hb dX12_readPlan_84 ?_
            refine lv_topi (fun z211 e_z211 => ?_)
            have t_z211 : z211.toInt = z3.toInt + ((1 : Int32)).toInt := by rw [e_z211]; exact fb_addI (by omega) (by omega)
            refine lv_iload_n hx hb dX12_readPlan_85 rfl (lv_at hl 1 rfl) ?_
            refine lv_iadd hx hb dX12_readPlan_86 ?_
            refine lv_topi (fun z212 e_z212 => ?_)
            have t_z212 : z212.toInt = z211.toInt + x114.toInt := by rw [e_z212]; exact fb_addI (by omega) (by omega)
            refine lv_iload_n hx hb dX12_readPlan_87 rfl (lv_at hl 0 rfl) ?_
            refine va_iast hx hb hKn.1 hP hD hS 0 0 rfl rfl (vp_in_iff.mpr ⟨by omega, by omega⟩) dX12_readPlan_88 (fun H locs hP hD hS => ?_)
            have hP : va_P g.1 vwCl [(a14, .inl (g.2 0, 225, .inl (upd x121 (z212.toNatClampNeg) (u206.1 0)))), (a4, .inl (g.2 1, 900, .inl mtape)), (h0, .inr (12, [.int mthrown, .ref a1, .ref a2, .ref a3, .ref a4, .int mtaped, .ref a6, .int msize, .int (u206.1 1), .int (u206.1 2), .int (u206.1 3), .int (u206.1 4), .int (u206.1 5), .int (u206.1 6), .ref a14, .ref a15, .int mgoal, .int mgoalDays, .int mgoalHearer, .ref a19, .ref a20, .int mleastOrder, .int mwordsMany, .ref a23, .ref a24, .ref a25, .ref a26, .ref a27, .ref a28]))] H := hP
            have hD : va_D A [(a14, .inl (g.2 0, 225, .inl (upd x121 (z212.toNatClampNeg) (u206.1 0)))), (a4, .inl (g.2 1, 900, .inl mtape)), (h0, .inr (12, [.int mthrown, .ref a1, .ref a2, .ref a3, .ref a4, .int mtaped, .ref a6, .int msize, .int (u206.1 1), .int (u206.1 2), .int (u206.1 3), .int (u206.1 4), .int (u206.1 5), .int (u206.1 6), .ref a14, .ref a15, .int mgoal, .int mgoalDays, .int mgoalHearer, .ref a19, .ref a20, .int mleastOrder, .int mwordsMany, .ref a23, .ref a24, .ref a25, .ref a26, .ref a27, .ref a28]))] := hD
            have a_f213 : wok (upd x121 (z212.toNatClampNeg) (u206.1 0)) := (wx_p h_x121 (q := (mfresh 7).toInt.toNat) (n := x114) (by omega) (by omega) (by omega) (by omega) (by omega))
            refine gn_f (upd x121 (z212.toNatClampNeg) (u206.1 0)) (fun f213 E_f213 => ?_)
            rw [E_f213] at hP hD a_f213
            have lw_f213 : (11 : Int) ≤ z212.toInt := by (try clear q207_6); (try clear q207_7); (try clear q207_8); (try clear q207_9); (try clear hi124); omega
            have g_f213_0 : (f213 0).toInt = (x121 0).toInt := uklo E_f213 lw_f213 (by decide)
            have g_f213_2 : (f213 2).toInt = (x121 2).toInt := uklo E_f213 lw_f213 (by decide)
            have g_f213_5 : (f213 5).toInt = (x121 5).toInt := uklo E_f213 lw_f213 (by decide)
            have g_f213_6 : (f213 6).toInt = (x121 6).toInt := uklo E_f213 lw_f213 (by decide)
            have g_f213_7 : (f213 7).toInt = (x121 7).toInt := uklo E_f213 lw_f213 (by decide)
            have g_f213_8 : (f213 8).toInt = (x121 8).toInt := uklo E_f213 lw_f213 (by decide)
            have g_f213_9 : (f213 9).toInt = (x121 9).toInt := uklo E_f213 lw_f213 (by decide)
            obtain ⟨z214, e_z214⟩ : ∃ y : Int32, y = x114 + 1 := ⟨_, rfl⟩
            have t_z214 : z214.toInt = x114.toInt + 1 := by rw [e_z214]; exact addk (by decide) (by omega) (by omega)
            refine lv_iinc (v := z214) (lv' := [(2, .int z214), (3, .int (u206.1 0)), (1, .int z3), (0, .ref h0)]) hx hb dX12_readPlan_89 hl (k := 1) rfl (by rw [e_z214]; rfl) (by decide) rfl (fun ls hl => ?_)
            refine lv_aload_n hx hb dX12_readPlan_92 rfl (lv_at hl 3 rfl) ?_
            refine g_get (C := RX12) (T := TX12) (N := 29) (ci := 12) (v := .int (u206.1 3)) FC hKn hP i_X12 2 rfl rfl 10 (by decide) b_1114 rfl dX12_readPlan_93 ?_
            refine lv_iconst (v := 3) hx hb dX12_readPlan_96 (by decide) ?_
            refine lv_icmp_ne (tgt := 16) hx hb dX12_readPlan_97 (by decide) (fun c215 => ?_) (fun c215 => ?_)
            · have c215 := k_ne (a := (u206.1 3).toInt) (b := 3) rfl (by decide) c215
              exact ih130 z214 (u206.1 1) (u206.1 2) (u206.1 3) (u206.1 4) (u206.1 5) (u206.1 6) f213 _ _ ls (by first | assumption | omega) (by first | assumption | omega) (by first | assumption | omega) (by first | assumption | omega) (by first | assumption | omega) (by first | assumption | omega) a_f213 (by rw [← E_f213]; exact pl_s (n := x114) hi122 (by omega) (by omega) (by omega) (by omega)) (Int.le_trans (hi123) q207_5) (fun h9 => (hi124 q207_6g)) (g_f213_0.trans hi125) (g_f213_2.trans hi126) (g_f213_6.trans hi127) (g_f213_7.trans hi128) (msr hn132 q207_9g (by omega) (by omega)) (hP.sub [2, 1, 0] rfl) (hD.sub [2, 1, 0] (by decide) rfl) hS (lv_sub hl [0, 2, 3] rfl)
            · have c215 := k_eq (a := (u206.1 3).toInt) (b := 3) rfl (by decide) c215
              refine lv_aload_n hx hb dX12_readPlan_100 rfl (lv_at hl 3 rfl) ?_
              refine g_get (C := RX12) (T := TX12) (N := 29) (ci := 12) (v := .ref a14) FC hKn hP i_X12 2 rfl rfl 14 (by decide) b_1132 rfl dX12_readPlan_101 ?_
              refine lv_iload_n hx hb dX12_readPlan_104 rfl (lv_at hl 2 rfl) ?_
              refine lv_iload_n hx hb dX12_readPlan_105 rfl (lv_at hl 0 rfl) ?_
              refine va_iast hx hb hKn.1 hP hD hS 0 0 rfl rfl (vp_in_iff.mpr ⟨by omega, by omega⟩) dX12_readPlan_106 (fun H locs hP hD hS => ?_)
              have hP : va_P g.1 vwCl [(a14, .inl (g.2 0, 225, .inl (upd f213 (z3.toNatClampNeg) z214))), (a4, .inl (g.2 1, 900, .inl mtape)), (h0, .inr (12, [.int mthrown, .ref a1, .ref a2, .ref a3, .ref a4, .int mtaped, .ref a6, .int msize, .int (u206.1 1), .int (u206.1 2), .int (u206.1 3), .int (u206.1 4), .int (u206.1 5), .int (u206.1 6), .ref a14, .ref a15, .int mgoal, .int mgoalDays, .int mgoalHearer, .ref a19, .ref a20, .int mleastOrder, .int mwordsMany, .ref a23, .ref a24, .ref a25, .ref a26, .ref a27, .ref a28]))] H := hP
              have hD : va_D A [(a14, .inl (g.2 0, 225, .inl (upd f213 (z3.toNatClampNeg) z214))), (a4, .inl (g.2 1, 900, .inl mtape)), (h0, .inr (12, [.int mthrown, .ref a1, .ref a2, .ref a3, .ref a4, .int mtaped, .ref a6, .int msize, .int (u206.1 1), .int (u206.1 2), .int (u206.1 3), .int (u206.1 4), .int (u206.1 5), .int (u206.1 6), .ref a14, .ref a15, .int mgoal, .int mgoalDays, .int mgoalHearer, .ref a19, .ref a20, .int mleastOrder, .int mwordsMany, .ref a23, .ref a24, .ref a25, .ref a26, .ref a27, .ref a28]))] := hD
              have a_f216 : wok (upd f213 (z3.toNatClampNeg) z214) := (wx_l a_f213 (q := (mfresh 7).toInt.toNat) (by omega) (by omega) (by omega) (by rw [← E_f213]; exact pl_s (n := x114) hi122 (by omega) (by omega) (by omega) (by omega)))
              refine gn_f (upd f213 (z3.toNatClampNeg) z214) (fun f216 E_f216 => ?_)
              rw [E_f216] at hP hD a_f216
              have lw_f216 : (11 : Int) ≤ z3.toInt := by (try clear q207_6); (try clear q207_7); (try clear q207_8); (try clear q207_9); (try clear hi124); omega
              have g_f216_0 : (f216 0).toInt = (f213 0).toInt := uklo E_f216 lw_f216 (by decide)
              have g_f216_2 : (f216 2).toInt = (f213 2).toInt := uklo E_f216 lw_f216 (by decide)
              have g_f216_5 : (f216 5).toInt = (f213 5).toInt := uklo E_f216 lw_f216 (by decide)
              have g_f216_6 : (f216 6).toInt = (f213 6).toInt := uklo E_f216 lw_f216 (by decide)
              have g_f216_7 : (f216 7).toInt = (f213 7).toInt := uklo E_f216 lw_f216 (by decide)
              have g_f216_8 : (f216 8).toInt = (f213 8).toInt := uklo E_f216 lw_f216 (by decide)
              have g_f216_9 : (f216 9).toInt = (f213 9).toInt := uklo E_f216 lw_f216 (by decide)
              refine lv_aload_n hx hb dX12_readPlan_107 rfl (lv_at hl 3 rfl) ?_
              refine g_get (C := RX12) (T := TX12) (N := 29) (ci := 12) (v := .ref a14) FC hKn hP i_X12 2 rfl rfl 14 (by decide) b_1132 rfl dX12_readPlan_108 ?_
              refine lv_bipush (v := 7) hx hb dX12_readPlan_111 (by decide) ?_
              refine lv_dup2_11 hx hb dX12_readPlan_113 rfl rfl ?_
              refine va_iald hx hb hKn.1 hP 0 0 rfl rfl (by unfold vp_in; decide) dX12_readPlan_114 ?_
              refine lv_topi (fun z217 e_z217 => ?_)
              have t_z217 : 0 ≤ z217.toInt ∧ z217.toInt ≤ 4 := by rw [e_z217]; exact wk_7 a_f216
              have q_z217 : z217.toInt = (f216 7).toInt := by rw [e_z217]; rfl
              refine lv_iconst (v := 1) hx hb dX12_readPlan_115 (by decide) ?_
              refine lv_iadd hx hb dX12_readPlan_116 ?_
              refine lv_topi (fun z218 e_z218 => ?_)
              have t_z218 : z218.toInt = z217.toInt + ((1 : Int32)).toInt := by rw [e_z218]; exact fb_addI (by omega) (by omega)
              refine va_iast hx hb hKn.1 hP hD hS 0 0 rfl rfl (by unfold vp_in; decide) dX12_readPlan_117 (fun H locs hP hD hS => ?_)
              have hP : va_P g.1 vwCl [(a14, .inl (g.2 0, 225, .inl (upd f216 ((7 : Int32).toNatClampNeg) z218))), (a4, .inl (g.2 1, 900, .inl mtape)), (h0, .inr (12, [.int mthrown, .ref a1, .ref a2, .ref a3, .ref a4, .int mtaped, .ref a6, .int msize, .int (u206.1 1), .int (u206.1 2), .int (u206.1 3), .int (u206.1 4), .int (u206.1 5), .int (u206.1 6), .ref a14, .ref a15, .int mgoal, .int mgoalDays, .int mgoalHearer, .ref a19, .ref a20, .int mleastOrder, .int mwordsMany, .ref a23, .ref a24, .ref a25, .ref a26, .ref a27, .ref a28]))] H := hP
              have hD : va_D A [(a14, .inl (g.2 0, 225, .inl (upd f216 ((7 : Int32).toNatClampNeg) z218))), (a4, .inl (g.2 1, 900, .inl mtape)), (h0, .inr (12, [.int mthrown, .ref a1, .ref a2, .ref a3, .ref a4, .int mtaped, .ref a6, .int msize, .int (u206.1 1), .int (u206.1 2), .int (u206.1 3), .int (u206.1 4), .int (u206.1 5), .int (u206.1 6), .ref a14, .ref a15, .int mgoal, .int mgoalDays, .int mgoalHearer, .ref a19, .ref a20, .int mleastOrder, .int mwordsMany, .ref a23, .ref a24, .ref a25, .ref a26, .ref a27, .ref a28]))] := hD
              have a_f219 : wok (upd f216 ((7 : Int32).toNatClampNeg) z218) := (wk_uc (k := 7) a_f216 (by omega))
              refine gn_f (upd f216 ((7 : Int32).toNatClampNeg) z218) (fun f219 E_f219 => ?_)
              rw [E_f219] at hP hD a_f219
              have g_f219_0 : (f219 0).toInt = (f216 0).toInt := by rw [← E_f219, show ((7 : Int32).toNatClampNeg : Nat) = 7 from rfl, uo (by decide)]
              have g_f219_2 : (f219 2).toInt = (f216 2).toInt := by rw [← E_f219, show ((7 : Int32).toNatClampNeg : Nat) = 7 from rfl, uo (by decide)]
              have g_f219_5 : (f219 5).toInt = (f216 5).toInt := by rw [← E_f219, show ((7 : Int32).toNatClampNeg : Nat) = 7 from rfl, uo (by decide)]
              have g_f219_6 : (f219 6).toInt = (f216 6).toInt := by rw [← E_f219, show ((7 : Int32).toNatClampNeg : Nat) = 7 from rfl, uo (by decide)]
              have g_f219_7 : (f219 7).toInt = z218.toInt := by rw [← E_f219, show ((7 : Int32).toNatClampNeg : Nat) = 7 from rfl, pk_us]
              have g_f219_8 : (f219 8).toInt = (f216 8).toInt := by rw [← E_f219, show ((7 : Int32).toNatClampNeg : Nat) = 7 from rfl, uo (by decide)]
              have g_f219_9 : (f219 9).toInt = (f216 9).toInt := by rw [← E_f219, show ((7 : Int32).toNatClampNeg : Nat) = 7 from rfl, uo (by decide)]
              exact rt_v FX ((fun k => match k with | 0 => 0 | 1 => u206.1 1 | 2 => u206.1 2 | 3 => u206.1 3 | 4 => u206.1 4 | 5 => u206.1 5 | 6 => u206.1 6 | _ => 0), (fun k => match k with | 0 => f219 | _ => fun _ => 0), (fun _ => fun _ => 0)) rfl ⟨(show 0 ≤ (u206.1 1).toInt ∧ (u206.1 1).toInt ≤ 900 by first | assumption | omega), (show 0 ≤ (u206.1 2).toInt ∧ (u206.1 2).toInt ≤ 900 by first | assumption | omega), (show 0 ≤ (u206.1 3).toInt ∧ (u206.1 3).toInt ≤ 4 by first | assumption | omega), (show 0 ≤ (u206.1 4).toInt ∧ (u206.1 4).toInt ≤ 99999 by first | assumption | omega), (show 0 ≤ (u206.1 5).toInt ∧ (u206.1 5).toInt ≤ 3 by first | assumption | omega), a_f219, (show 5 * mat.toInt - mtoken.toInt ≤ 5 * (u206.1 1).toInt - (u206.1 3).toInt from (Int.le_trans (hi123) q207_5)), (show (u206.1 5).toInt = 0 → mfaultKind.toInt = 0 from (fun h9 => (hi124 q207_6g))), (show ((f219) 0).toInt = (mfresh 0).toInt ∧ ((f219) 2).toInt = (mfresh 2).toInt from ⟨(g_f219_0.trans (g_f216_0.trans (g_f213_0.trans hi125))), (g_f219_2.trans (g_f216_2.trans (g_f213_2.trans hi126)))⟩)⟩ (hP.sub [2, 1, 0] rfl) (hD.sub [2, 1, 0] (by decide) rfl) hS (Nat.le_of_ble_eq_true rfl) (Nat.le_of_ble_eq_true rfl) dX12_readPlan_118
          · skip
            clear q207_6
            clear q207_7
            have q207_8g := q207_8 c210
            clear q207_8
            clear q207_9
            refine tp_i (v := 0) (Int32.toInt_inj.mp (show (u208.1 0).toInt = (0 : Int32).toInt by rw [show (0 : Int32).toInt = 0 by decide]; omega)) ?_
            refine lv_if_ne (tgt := 78) hx hb dX12_readPlan_74 (by decide) (fun h => absurd h (by decide)) (fun _ => ?_)
            exact rt_v FX ((fun k => match k with | 0 => 0 | 1 => u206.1 1 | 2 => u206.1 2 | 3 => u206.1 3 | 4 => u206.1 4 | 5 => u206.1 5 | 6 => u206.1 6 | _ => 0), (fun k => match k with | 0 => x121 | _ => fun _ => 0), (fun _ => fun _ => 0)) rfl ⟨(show 0 ≤ (u206.1 1).toInt ∧ (u206.1 1).toInt ≤ 900 by first | assumption | omega), (show 0 ≤ (u206.1 2).toInt ∧ (u206.1 2).toInt ≤ 900 by first | assumption | omega), (show 0 ≤ (u206.1 3).toInt ∧ (u206.1 3).toInt ≤ 4 by first | assumption | omega), (show 0 ≤ (u206.1 4).toInt ∧ (u206.1 4).toInt ≤ 99999 by first | assumption | omega), (show 0 ≤ (u206.1 5).toInt ∧ (u206.1 5).toInt ≤ 3 by first | assumption | omega), h_x121, (show 5 * mat.toInt - mtoken.toInt ≤ 5 * (u206.1 1).toInt - (u206.1 3).toInt from (Int.le_trans (hi123) q207_5)), (show (u206.1 5).toInt = 0 → mfaultKind.toInt = 0 from (fun h9 => (absurd h9 c210))), (show ((x121) 0).toInt = (mfresh 0).toInt ∧ ((x121) 2).toInt = (mfresh 2).toInt from ⟨hi125, hi126⟩)⟩ (hP.sub [2, 1, 0] rfl) (hD.sub [2, 1, 0] (by decide) rfl) hS (Nat.le_of_ble_eq_true rfl) (Nat.le_of_ble_eq_true rfl) dX12_readPlan_77
  have kc0 : (0 : Int32).toInt = 0 := by decide
  exact lp129 _ (0 : Int32) mat mfrom mtoken mvalue mfaultKind mfaultPlace mfresh _ _ ls (by decide) (by first | assumption | omega) (by first | assumption | omega) (by first | assumption | omega) (by first | assumption | omega) (by first | assumption | omega) i_mfresh (fun i _ hl => absurd hl (by rw [show (0 : Int32).toInt = 0 by decide]; omega)) (Int.le_refl _) (fun h9 => h9) rfl rfl rfl rfl (Nat.lt_succ_self _) hP hD hS (lv_sub hl [0, 1, 2] rfl)
