set_option maxRecDepth 100000 in
set_option maxHeartbeats 4000000 in
theorem k_X12_readHearer (l : Launch) (g : GG) (h0 : Nat) (a1 : Nat) (a2 : Nat) (a3 : Nat) (a4 : Nat) (a6 : Nat) (a14 : Nat) (a15 : Nat) (a19 : Nat) (a20 : Nat) (a23 : Nat) (a24 : Nat) (a25 : Nat) (a26 : Nat) (a27 : Nat) (a28 : Nat) (mthrown : Int32) (mtaped : Int32) (msize : Int32) (mat : Int32) (mfrom : Int32) (mtoken : Int32) (mvalue : Int32) (mfaultKind : Int32) (mfaultPlace : Int32) (mgoal : Int32) (mgoalDays : Int32) (mgoalHearer : Int32) (mleastOrder : Int32) (mwordsMany : Int32) (mtape : Nat → Int32) (mfresh : Nat → Int32) (i_mtaped : 0 ≤ mtaped.toInt ∧ mtaped.toInt ≤ 900) (i_msize : 0 ≤ msize.toInt ∧ msize.toInt ≤ 900) (i_mat : 0 ≤ mat.toInt ∧ mat.toInt ≤ 900) (i_mfrom : 0 ≤ mfrom.toInt ∧ mfrom.toInt ≤ 900) (i_mtoken : 0 ≤ mtoken.toInt ∧ mtoken.toInt ≤ 4) (i_mvalue : 0 ≤ mvalue.toInt ∧ mvalue.toInt ≤ 99999) (i_mfaultKind : 0 ≤ mfaultKind.toInt ∧ mfaultKind.toInt ≤ 3) (i_mgoalHearer : 0 ≤ mgoalHearer.toInt ∧ mgoalHearer.toInt ≤ 3) (i_mwordsMany : 0 ≤ mwordsMany.toInt ∧ mwordsMany.toInt ≤ 10) (i_mfresh : wok mfresh) (h5 : (mfresh 5).toInt ≤ 3) : Ct l g yX12_readHearer cX12_readHearer 4 none { frames := 8, cells := 0, slots := 0, locals := 174 } [.ref h0] [(h0, .inr (12, [.int mthrown, .ref a1, .ref a2, .ref a3, .ref a4, .int mtaped, .ref a6, .int msize, .int mat, .int mfrom, .int mtoken, .int mvalue, .int mfaultKind, .int mfaultPlace, .ref a14, .ref a15, .int mgoal, .int mgoalDays, .int mgoalHearer, .ref a19, .ref a20, .int mleastOrder, .int mwordsMany, .ref a23, .ref a24, .ref a25, .ref a26, .ref a27, .ref a28])), (a4, .inl (g.2 1, 900, .inl mtape)), (a14, .inl (g.2 0, 225, .inl mfresh))] (S := (Nat → Int32) × (Nat → Nat → Int32) × (Nat → Nat → Int64)) (fun _ => none) (fun u => (0 ≤ (u.1 1).toInt ∧ (u.1 1).toInt ≤ 900) ∧ (0 ≤ (u.1 2).toInt ∧ (u.1 2).toInt ≤ 900) ∧ (0 ≤ (u.1 3).toInt ∧ (u.1 3).toInt ≤ 4) ∧ (0 ≤ (u.1 4).toInt ∧ (u.1 4).toInt ≤ 99999) ∧ (0 ≤ (u.1 5).toInt ∧ (u.1 5).toInt ≤ 3) ∧ (wok (u.2.1 0)) ∧ (5 * mat.toInt - mtoken.toInt ≤ 5 * (u.1 1).toInt - (u.1 3).toInt) ∧ ((u.1 5).toInt = 0 → mfaultKind.toInt = 0) ∧ (((u.2.1 0) 0).toInt = (mfresh 0).toInt ∧ ((u.2.1 0) 2).toInt = (mfresh 2).toInt)) (fun u => [(h0, .inr (12, [.int mthrown, .ref a1, .ref a2, .ref a3, .ref a4, .int mtaped, .ref a6, .int msize, .int (u.1 1), .int (u.1 2), .int (u.1 3), .int (u.1 4), .int (u.1 5), .int (u.1 6), .ref a14, .ref a15, .int mgoal, .int mgoalDays, .int mgoalHearer, .ref a19, .ref a20, .int mleastOrder, .int mwordsMany, .ref a23, .ref a24, .ref a25, .ref a26, .ref a27, .ref a28])), (a4, .inl (g.2 1, 900, .inl mtape)), (a14, .inl (g.2 0, 225, .inl (u.2.1 0)))]) := by
  refine Ct.of (by decide) (Nat.le_of_ble_eq_true rfl) ?_
  intro p e s m below meth c A ls FX hP hD hS hl
  obtain ⟨FC, hr, hlk, hKn, hA, hnm, hZ⟩ := id FX
  have FC : CallFix p m c cX12_readHearer 4 s _ BIG RX12 := FC
  obtain ⟨hx, hb, hml, hown, hB⟩ := id FC
  have hl : lv_has ls 4 [(0, .ref h0)] := hl
  refine lv_bipush (v := 19) hx hb dX12_readHearer_0 (by decide) ?_
  refine lv_bipush (v := 9) hx hb dX12_readHearer_2 (by decide) ?_
  refine lv_aload_n hx hb dX12_readHearer_4 rfl (lv_at hl 0 rfl) ?_
  refine g_get (C := RX12) (T := TX12) (N := 29) (ci := 12) (v := .ref a14) FC hKn hP i_X12 0 rfl rfl 14 (by decide) b_1132 rfl dX12_readHearer_5 ?_
  refine lv_iconst (v := 5) hx hb dX12_readHearer_8 (by decide) ?_
  refine va_iald hx hb hKn.1 hP 2 0 rfl rfl (by unfold vp_in; decide) dX12_readHearer_9 ?_
  have kc5 : (5 : Int32).toInt = 5 := by decide
  refine lv_topi (fun z1 e_z1 => ?_)
  have t_z1 : 0 ≤ z1.toInt ∧ z1.toInt ≤ 4 := by rw [e_z1]; exact wk_5 i_mfresh
  have q_z1 : z1.toInt = (mfresh 5).toInt := by rw [e_z1]; rfl
  refine lv_imul hx hb dX12_readHearer_10 ?_
  have kc9 : (9 : Int32).toInt = 9 := by decide
  refine lv_topi (fun z2 e_z2 => ?_)
  have t_z2 : z2.toInt = 9 * z1.toInt := by rw [e_z2, fb_mulI (by rw [show (9 : Int32).toInt = 9 by decide]; omega) (by rw [show (9 : Int32).toInt = 9 by decide]; omega), show (9 : Int32).toInt = 9 by decide]
  refine lv_iadd hx hb dX12_readHearer_11 ?_
  have kc19 : (19 : Int32).toInt = 19 := by decide
  refine lv_topi (fun z3 e_z3 => ?_)
  have t_z3 : z3.toInt = ((19 : Int32)).toInt + z2.toInt := by rw [e_z3]; exact fb_addI (by omega) (by omega)
  refine lv_istore_n (lv' := [(1, .int z3), (0, .ref h0)]) hx hb dX12_readHearer_12 rfl hl (by decide) rfl (fun ls hl => ?_)
  refine lv_iconst (v := 0) hx hb dX12_readHearer_13 (by decide) ?_
  refine lv_istore_n (lv' := [(2, .int 0), (1, .int z3), (0, .ref h0)]) hx hb dX12_readHearer_14 rfl hl (by decide) rfl (fun ls hl => ?_)
  refine lv_aload_n hx hb dX12_readHearer_15 rfl (lv_at hl 2 rfl) ?_
  refine va_ldcS hx hb hown (hZ.2.2 30 _ rfl).1 dX12_readHearer_16 ?_
  refine call_V (As := [.ref (sa g 30)]) (rest := []) (wr := [(a14, .inl (g.2 0, 225, .inl mfresh))]) FC hKn hZ (k_X12_needs l g 30 h0 a1 a2 a3 a4 a6 a14 a15 a19 a20 a23 a24 a25 a26 a27 a28 mthrown mtaped msize mat mfrom mtoken mvalue mfaultKind mfaultPlace mgoal mgoalDays mgoalHearer mleastOrder mwordsMany mtape (by first | assumption | omega) (by first | assumption | omega) (by first | assumption | omega) (by first | assumption | omega) (by first | assumption | omega) (by first | assumption | omega) (by first | assumption | omega) (by first | assumption | omega) (by first | assumption | omega) (by first | assumption | omega)) m_yX12_needs b_1130 (ci := 12) rfl rfl rfl hP hD hS hA [0, 1] [2] rfl (by decide) rfl (by decide) (by decide) rfl hl.1 rfl (Nat.le_of_ble_eq_true rfl) dX12_readHearer_18 ⟨(Nat.le_of_ble_eq_true rfl), (Nat.le_of_ble_eq_true rfl)⟩ ⟨(Nat.le_of_ble_eq_true rfl), (Nat.le_of_ble_eq_true rfl)⟩ (fun u4 H locs q5 hP hD hS => ?_)
  obtain ⟨q5_0, q5_1, q5_2, q5_3, q5_4, q5_5, q5_6⟩ := q5
  have hP : va_P g.1 vwCl [(a14, .inl (g.2 0, 225, .inl mfresh)), (h0, .inr (12, [.int mthrown, .ref a1, .ref a2, .ref a3, .ref a4, .int mtaped, .ref a6, .int msize, .int (u4.1 1), .int (u4.1 2), .int (u4.1 3), .int (u4.1 4), .int (u4.1 5), .int (u4.1 6), .ref a14, .ref a15, .int mgoal, .int mgoalDays, .int mgoalHearer, .ref a19, .ref a20, .int mleastOrder, .int mwordsMany, .ref a23, .ref a24, .ref a25, .ref a26, .ref a27, .ref a28])), (a4, .inl (g.2 1, 900, .inl mtape))] H := hP
  have hD : va_D A [(a14, .inl (g.2 0, 225, .inl mfresh)), (h0, .inr (12, [.int mthrown, .ref a1, .ref a2, .ref a3, .ref a4, .int mtaped, .ref a6, .int msize, .int (u4.1 1), .int (u4.1 2), .int (u4.1 3), .int (u4.1 4), .int (u4.1 5), .int (u4.1 6), .ref a14, .ref a15, .int mgoal, .int mgoalDays, .int mgoalHearer, .ref a19, .ref a20, .int mleastOrder, .int mwordsMany, .ref a23, .ref a24, .ref a25, .ref a26, .ref a27, .ref a28])), (a4, .inl (g.2 1, 900, .inl mtape))] := hD
  refine W.eq (g2 := F0 m 21 ls []) rfl ?_
  refine lv_iconst (v := 0) hx hb dX12_readHearer_21 (by decide) ?_
  refine lv_istore_n (lv' := [(3, .int 0), (2, .int 0), (1, .int z3), (0, .ref h0)]) hx hb dX12_readHearer_22 rfl hl (by decide) rfl (fun ls hl => ?_)
  have lp744 : ∀ (n746 : Nat) (x730 : Int32) (x731 : Int32) (x732 : Nat → Int32) (x733 : Int32) (x734 : Int32) (x735 : Int32) (x736 : Int32) (x737 : Int32) (x738 : Int32) (H : Heap) (locs : List Loc) (ls : Array Slot), 0 ≤ x730.toInt ∧ x730.toInt ≤ 8 → wok x732 → 0 ≤ x733.toInt ∧ x733.toInt ≤ 900 → 0 ≤ x734.toInt ∧ x734.toInt ≤ 900 → 0 ≤ x735.toInt ∧ x735.toInt ≤ 4 → 0 ≤ x736.toInt ∧ x736.toInt ≤ 99999 → 0 ≤ x737.toInt ∧ x737.toInt ≤ 3 → 5 * mat.toInt - mtoken.toInt ≤ 5 * x733.toInt - x735.toInt → (x737.toInt = 0 → mfaultKind.toInt = 0) → (x732 0).toInt = (mfresh 0).toInt → (x732 2).toInt = (mfresh 2).toInt → (x732 5).toInt = (mfresh 5).toInt → (8 - x730.toInt).toNat < n746 → va_P g.1 vwCl [(a14, .inl (g.2 0, 225, .inl x732)), (h0, .inr (12, [.int mthrown, .ref a1, .ref a2, .ref a3, .ref a4, .int mtaped, .ref a6, .int msize, .int x733, .int x734, .int x735, .int x736, .int x737, .int x738, .ref a14, .ref a15, .int mgoal, .int mgoalDays, .int mgoalHearer, .ref a19, .ref a20, .int mleastOrder, .int mwordsMany, .ref a23, .ref a24, .ref a25, .ref a26, .ref a27, .ref a28])), (a4, .inl (g.2 1, 900, .inl mtape))] H → va_D A [(a14, .inl (g.2 0, 225, .inl x732)), (h0, .inr (12, [.int mthrown, .ref a1, .ref a2, .ref a3, .ref a4, .int mtaped, .ref a6, .int msize, .int x733, .int x734, .int x735, .int x736, .int x737, .int x738, .ref a14, .ref a15, .int mgoal, .int mgoalDays, .int mgoalHearer, .ref a19, .ref a20, .int mleastOrder, .int mwordsMany, .ref a23, .ref a24, .ref a25, .ref a26, .ref a27, .ref a28])), (a4, .inl (g.2 1, 900, .inl mtape))] → va_S A s.heap H locs → lv_has ls 4 [(3, .int x730), (2, .int x731), (1, .int z3), (0, .ref h0)] → W p l e { frames := 8, cells := 0, slots := 0, locals := 174 } s m ([.ref h0].toArray) below meth c H locs 0 0 (MQ below (QX (S := (Nat → Int32) × (Nat → Nat → Int32) × (Nat → Nat → Int64)) (fun _ => none) (fun u => (0 ≤ (u.1 1).toInt ∧ (u.1 1).toInt ≤ 900) ∧ (0 ≤ (u.1 2).toInt ∧ (u.1 2).toInt ≤ 900) ∧ (0 ≤ (u.1 3).toInt ∧ (u.1 3).toInt ≤ 4) ∧ (0 ≤ (u.1 4).toInt ∧ (u.1 4).toInt ≤ 99999) ∧ (0 ≤ (u.1 5).toInt ∧ (u.1 5).toInt ≤ 3) ∧ (wok (u.2.1 0)) ∧ (5 * mat.toInt - mtoken.toInt ≤ 5 * (u.1 1).toInt - (u.1 3).toInt) ∧ ((u.1 5).toInt = 0 → mfaultKind.toInt = 0) ∧ (((u.2.1 0) 0).toInt = (mfresh 0).toInt ∧ ((u.2.1 0) 2).toInt = (mfresh 2).toInt)) g (fun u => [(h0, .inr (12, [.int mthrown, .ref a1, .ref a2, .ref a3, .ref a4, .int mtaped, .ref a6, .int msize, .int (u.1 1), .int (u.1 2), .int (u.1 3), .int (u.1 4), .int (u.1 5), .int (u.1 6), .ref a14, .ref a15, .int mgoal, .int mgoalDays, .int mgoalHearer, .ref a19, .ref a20, .int mleastOrder, .int mwordsMany, .ref a23, .ref a24, .ref a25, .ref a26, .ref a27, .ref a28])), (a4, .inl (g.2 1, 900, .inl mtape)), (a14, .inl (g.2 0, 225, .inl (u.2.1 0)))]) A) ([.ref h0].toArray) s 0 0 A) (F0 m 23 ls []) := by
    intro n746
    induction n746 with
    | zero =>
      intro x730 x731 x732 x733 x734 x735 x736 x737 x738 H locs ls h_x730 h_x732 h_x733 h_x734 h_x735 h_x736 h_x737 hi739 hi740 hi741 hi742 hi743 hn747
      exact absurd hn747 (Nat.not_lt_zero _)
    | succ n746 ih745 =>
      intro x730 x731 x732 x733 x734 x735 x736 x737 x738 H locs ls h_x730 h_x732 h_x733 h_x734 h_x735 h_x736 h_x737 hi739 hi740 hi741 hi742 hi743 hn747 hP hD hS hl
      refine lv_iload_n hx hb dX12_readHearer_23 rfl (lv_at hl 0 rfl) ?_
      refine lv_aload_n hx hb dX12_readHearer_24 rfl (lv_at hl 3 rfl) ?_
      refine g_get (C := RX12) (T := TX12) (N := 29) (ci := 12) (v := .ref a14) FC hKn hP i_X12 1 rfl rfl 14 (by decide) b_1132 rfl dX12_readHearer_25 ?_
      refine lv_iconst (v := 0) hx hb dX12_readHearer_28 (by decide) ?_
      refine va_iald hx hb hKn.1 hP 0 0 rfl rfl (by unfold vp_in; decide) dX12_readHearer_29 ?_
      have kc0 : (0 : Int32).toInt = 0 := by decide
      refine lv_topi (fun z748 e_z748 => ?_)
      have t_z748 : 0 ≤ z748.toInt ∧ z748.toInt ≤ 8 := by rw [e_z748]; exact wk_0 h_x732
      have q_z748 : z748.toInt = (x732 0).toInt := by rw [e_z748]; rfl
      refine lv_icmp_ge (tgt := 108) hx hb dX12_readHearer_30 (by decide) (fun c749 => ?_) (fun c749 => ?_)
      · have c749 := k_le (a := z748.toInt) (b := x730.toInt) rfl rfl c749
        refine lv_aload_n hx hb dX12_readHearer_108 rfl (lv_at hl 3 rfl) ?_
        refine g_get (C := RX12) (T := TX12) (N := 29) (ci := 12) (v := .ref a14) FC hKn hP i_X12 1 rfl rfl 14 (by decide) b_1132 rfl dX12_readHearer_109 ?_
        refine lv_iload_n hx hb dX12_readHearer_112 rfl (lv_at hl 2 rfl) ?_
        refine lv_bipush (v := 8) hx hb dX12_readHearer_113 (by decide) ?_
        refine lv_iadd hx hb dX12_readHearer_115 ?_
        have kc8 : (8 : Int32).toInt = 8 := by decide
        refine lv_topi (fun z750 e_z750 => ?_)
        have t_z750 : z750.toInt = z3.toInt + ((8 : Int32)).toInt := by rw [e_z750]; exact fb_addI (by omega) (by omega)
        refine lv_aload_n hx hb dX12_readHearer_116 rfl (lv_at hl 3 rfl) ?_
        refine va_ldcS hx hb hown (hZ.2.2 31 _ rfl).1 dX12_readHearer_117 ?_
        refine call_V (As := [.ref (sa g 31)]) (rest := [.int z750, .ref a14]) (wr := [(a14, .inl (g.2 0, 225, .inl x732))]) FC hKn hZ (k_X12_is l g 31 h0 a1 a2 a3 a4 a6 a14 a15 a19 a20 a23 a24 a25 a26 a27 a28 mthrown mtaped msize x733 x734 x735 x736 x737 x738 mgoal mgoalDays mgoalHearer mleastOrder mwordsMany mtape (by first | assumption | omega) (by first | assumption | omega) (by first | assumption | omega) (by first | assumption | omega) (by first | assumption | omega) (by first | assumption | omega) (by first | assumption | omega) (by first | assumption | omega) (by first | assumption | omega) (by first | assumption | omega)) m_yX12_is b_1126 (ci := 12) rfl rfl rfl hP hD hS hA [1, 2] [0] rfl (by decide) rfl (by decide) (by decide) rfl hl.1 rfl (Nat.le_of_ble_eq_true rfl) dX12_readHearer_119 ⟨(Nat.le_of_ble_eq_true rfl), (Nat.le_of_ble_eq_true rfl)⟩ ⟨(Nat.le_of_ble_eq_true rfl), (Nat.le_of_ble_eq_true rfl)⟩ (fun u751 H locs q752 hP hD hS => ?_)
        obtain ⟨q752_0, q752_1, q752_2⟩ := q752
        have hP : va_P g.1 vwCl [(a14, .inl (g.2 0, 225, .inl x732)), (h0, .inr (12, [.int mthrown, .ref a1, .ref a2, .ref a3, .ref a4, .int mtaped, .ref a6, .int msize, .int x733, .int x734, .int x735, .int x736, .int x737, .int x738, .ref a14, .ref a15, .int mgoal, .int mgoalDays, .int mgoalHearer, .ref a19, .ref a20, .int mleastOrder, .int mwordsMany, .ref a23, .ref a24, .ref a25, .ref a26, .ref a27, .ref a28])), (a4, .inl (g.2 1, 900, .inl mtape))] H := hP
        have hD : va_D A [(a14, .inl (g.2 0, 225, .inl x732)), (h0, .inr (12, [.int mthrown, .ref a1, .ref a2, .ref a3, .ref a4, .int mtaped, .ref a6, .int msize, .int x733, .int x734, .int x735, .int x736, .int x737, .int x738, .ref a14, .ref a15, .int mgoal, .int mgoalDays, .int mgoalHearer, .ref a19, .ref a20, .int mleastOrder, .int mwordsMany, .ref a23, .ref a24, .ref a25, .ref a26, .ref a27, .ref a28])), (a4, .inl (g.2 1, 900, .inl mtape))] := hD
        refine W.eq (g2 := F0 m 122 ls [.int (u751.1 0), .int z750, .ref a14]) rfl ?_
        rw [q752_1] at q752_0
        rw [q752_1] at q752_2
        refine tp_i (v := isF x737 x735 x733 x734 mtape 31) q752_1 ?_
        refine lv_if_eq (tgt := 136) hx hb dX12_readHearer_122 (by decide) (fun c753 => ?_) (fun c753 => ?_)
        · have c753 := k_eq (a := (isF x737 x735 x733 x734 mtape 31).toInt) (b := 0) rfl (by decide) c753
          refine lv_iconst (v := 0) hx hb dX12_readHearer_136 (by decide) ?_
          refine va_iast hx hb hKn.1 hP hD hS 0 0 rfl rfl (vp_in_iff.mpr ⟨by omega, by omega⟩) dX12_readHearer_137 (fun H locs hP hD hS => ?_)
          have hP : va_P g.1 vwCl [(a14, .inl (g.2 0, 225, .inl (upd x732 (z750.toNatClampNeg) 0))), (h0, .inr (12, [.int mthrown, .ref a1, .ref a2, .ref a3, .ref a4, .int mtaped, .ref a6, .int msize, .int x733, .int x734, .int x735, .int x736, .int x737, .int x738, .ref a14, .ref a15, .int mgoal, .int mgoalDays, .int mgoalHearer, .ref a19, .ref a20, .int mleastOrder, .int mwordsMany, .ref a23, .ref a24, .ref a25, .ref a26, .ref a27, .ref a28])), (a4, .inl (g.2 1, 900, .inl mtape))] H := hP
          have hD : va_D A [(a14, .inl (g.2 0, 225, .inl (upd x732 (z750.toNatClampNeg) 0))), (h0, .inr (12, [.int mthrown, .ref a1, .ref a2, .ref a3, .ref a4, .int mtaped, .ref a6, .int msize, .int x733, .int x734, .int x735, .int x736, .int x737, .int x738, .ref a14, .ref a15, .int mgoal, .int mgoalDays, .int mgoalHearer, .ref a19, .ref a20, .int mleastOrder, .int mwordsMany, .ref a23, .ref a24, .ref a25, .ref a26, .ref a27, .ref a28])), (a4, .inl (g.2 1, 900, .inl mtape))] := hD
          have a_f754 : wok (upd x732 (z750.toNatClampNeg) 0) := (wx_g h_x732 (by omega) (by omega) (by omega))
          refine gn_f (upd x732 (z750.toNatClampNeg) 0) (fun f754 E_f754 => ?_)
          rw [E_f754] at hP hD a_f754
          have lw_f754 : (11 : Int) ≤ z750.toInt := by (try clear q5_6); (try clear q752_2); (try clear hi740); omega
          have g_f754_0 : (f754 0).toInt = (x732 0).toInt := uklo E_f754 lw_f754 (by decide)
          have g_f754_2 : (f754 2).toInt = (x732 2).toInt := uklo E_f754 lw_f754 (by decide)
          have g_f754_5 : (f754 5).toInt = (x732 5).toInt := uklo E_f754 lw_f754 (by decide)
          have g_f754_6 : (f754 6).toInt = (x732 6).toInt := uklo E_f754 lw_f754 (by decide)
          have g_f754_7 : (f754 7).toInt = (x732 7).toInt := uklo E_f754 lw_f754 (by decide)
          have g_f754_8 : (f754 8).toInt = (x732 8).toInt := uklo E_f754 lw_f754 (by decide)
          have g_f754_9 : (f754 9).toInt = (x732 9).toInt := uklo E_f754 lw_f754 (by decide)
          refine lv_aload_n hx hb dX12_readHearer_138 rfl (lv_at hl 3 rfl) ?_
          refine g_get (C := RX12) (T := TX12) (N := 29) (ci := 12) (v := .ref a14) FC hKn hP i_X12 1 rfl rfl 14 (by decide) b_1132 rfl dX12_readHearer_139 ?_
          refine lv_iconst (v := 5) hx hb dX12_readHearer_142 (by decide) ?_
          refine lv_dup2_11 hx hb dX12_readHearer_143 rfl rfl ?_
          refine va_iald hx hb hKn.1 hP 0 0 rfl rfl (by unfold vp_in; decide) dX12_readHearer_144 ?_
          refine lv_topi (fun z755 e_z755 => ?_)
          have t_z755 : 0 ≤ z755.toInt ∧ z755.toInt ≤ 4 := by rw [e_z755]; exact wk_5 a_f754
          have q_z755 : z755.toInt = (f754 5).toInt := by rw [e_z755]; rfl
          refine lv_iconst (v := 1) hx hb dX12_readHearer_145 (by decide) ?_
          refine lv_iadd hx hb dX12_readHearer_146 ?_
          have kc1 : (1 : Int32).toInt = 1 := by decide
          refine lv_topi (fun z756 e_z756 => ?_)
          have t_z756 : z756.toInt = z755.toInt + ((1 : Int32)).toInt := by rw [e_z756]; exact fb_addI (by omega) (by omega)
          refine va_iast hx hb hKn.1 hP hD hS 0 0 rfl rfl (by unfold vp_in; decide) dX12_readHearer_147 (fun H locs hP hD hS => ?_)
          have hP : va_P g.1 vwCl [(a14, .inl (g.2 0, 225, .inl (upd f754 ((5 : Int32).toNatClampNeg) z756))), (h0, .inr (12, [.int mthrown, .ref a1, .ref a2, .ref a3, .ref a4, .int mtaped, .ref a6, .int msize, .int x733, .int x734, .int x735, .int x736, .int x737, .int x738, .ref a14, .ref a15, .int mgoal, .int mgoalDays, .int mgoalHearer, .ref a19, .ref a20, .int mleastOrder, .int mwordsMany, .ref a23, .ref a24, .ref a25, .ref a26, .ref a27, .ref a28])), (a4, .inl (g.2 1, 900, .inl mtape))] H := hP
          have hD : va_D A [(a14, .inl (g.2 0, 225, .inl (upd f754 ((5 : Int32).toNatClampNeg) z756))), (h0, .inr (12, [.int mthrown, .ref a1, .ref a2, .ref a3, .ref a4, .int mtaped, .ref a6, .int msize, .int x733, .int x734, .int x735, .int x736, .int x737, .int x738, .ref a14, .ref a15, .int mgoal, .int mgoalDays, .int mgoalHearer, .ref a19, .ref a20, .int mleastOrder, .int mwordsMany, .ref a23, .ref a24, .ref a25, .ref a26, .ref a27, .ref a28])), (a4, .inl (g.2 1, 900, .inl mtape))] := hD
          have a_f757 : wok (upd f754 ((5 : Int32).toNatClampNeg) z756) := (wk_uc (k := 5) a_f754 (by omega))
          refine gn_f (upd f754 ((5 : Int32).toNatClampNeg) z756) (fun f757 E_f757 => ?_)
          rw [E_f757] at hP hD a_f757
          have g_f757_0 : (f757 0).toInt = (f754 0).toInt := by rw [← E_f757, show ((5 : Int32).toNatClampNeg : Nat) = 5 from rfl, uo (by decide)]
          have g_f757_2 : (f757 2).toInt = (f754 2).toInt := by rw [← E_f757, show ((5 : Int32).toNatClampNeg : Nat) = 5 from rfl, uo (by decide)]
          have g_f757_5 : (f757 5).toInt = z756.toInt := by rw [← E_f757, show ((5 : Int32).toNatClampNeg : Nat) = 5 from rfl, pk_us]
          have g_f757_6 : (f757 6).toInt = (f754 6).toInt := by rw [← E_f757, show ((5 : Int32).toNatClampNeg : Nat) = 5 from rfl, uo (by decide)]
          have g_f757_7 : (f757 7).toInt = (f754 7).toInt := by rw [← E_f757, show ((5 : Int32).toNatClampNeg : Nat) = 5 from rfl, uo (by decide)]
          have g_f757_8 : (f757 8).toInt = (f754 8).toInt := by rw [← E_f757, show ((5 : Int32).toNatClampNeg : Nat) = 5 from rfl, uo (by decide)]
          have g_f757_9 : (f757 9).toInt = (f754 9).toInt := by rw [← E_f757, show ((5 : Int32).toNatClampNeg : Nat) = 5 from rfl, uo (by decide)]
          exact rt_v FX ((fun k => match k with | 0 => 0 | 1 => x733 | 2 => x734 | 3 => x735 | 4 => x736 | 5 => x737 | 6 => x738 | _ => 0), (fun k => match k with | 0 => f757 | _ => fun _ => 0), (fun _ => fun _ => 0)) rfl ⟨(show 0 ≤ x733.toInt ∧ x733.toInt ≤ 900 by first | assumption | omega), (show 0 ≤ x734.toInt ∧ x734.toInt ≤ 900 by first | assumption | omega), (show 0 ≤ x735.toInt ∧ x735.toInt ≤ 4 by first | assumption | omega), (show 0 ≤ x736.toInt ∧ x736.toInt ≤ 99999 by first | assumption | omega), (show 0 ≤ x737.toInt ∧ x737.toInt ≤ 3 by first | assumption | omega), a_f757, (show 5 * mat.toInt - mtoken.toInt ≤ 5 * (x733).toInt - (x735).toInt from (hi739)), (show (x737).toInt = 0 → mfaultKind.toInt = 0 from (fun h9 => (hi740 h9))), (show ((f757) 0).toInt = (mfresh 0).toInt ∧ ((f757) 2).toInt = (mfresh 2).toInt from ⟨(g_f757_0.trans (g_f754_0.trans hi741)), (g_f757_2.trans (g_f754_2.trans hi742))⟩)⟩ (hP.sub [1, 2, 0] rfl) (hD.sub [1, 2, 0] (by decide) rfl) hS (Nat.le_of_ble_eq_true rfl) (Nat.le_of_ble_eq_true rfl) dX12_readHearer_148
        · have c753 := k_ne (a := (isF x737 x735 x733 x734 mtape 31).toInt) (b := 0) rfl (by decide) c753
          refine lv_aload_n hx hb dX12_readHearer_125 rfl (lv_at hl 3 rfl) ?_
          refine va_ldcS hx hb hown (hZ.2.2 31 _ rfl).1 dX12_readHearer_126 ?_
          refine lv_iconst (v := 1) hx hb dX12_readHearer_128 (by decide) ?_
          refine lv_iconst (v := 5) hx hb dX12_readHearer_129 (by decide) ?_
          have kc1 : (1 : Int32).toInt = 1 := by decide
          refine call_V (As := [.ref (sa g 31), .int 1, .int 5]) (rest := [.int z750, .ref a14]) (wr := [(a14, .inl (g.2 0, 225, .inl x732))]) FC hKn hZ (k_X12_told l g 31 h0 a1 a2 a3 a4 a6 a14 a15 a19 a20 a23 a24 a25 a26 a27 a28 mthrown mtaped msize x733 x734 x735 x736 x737 x738 mgoal mgoalDays mgoalHearer mleastOrder mwordsMany mtape ((1 : Int32)) ((5 : Int32)) (by first | assumption | omega) (by first | assumption | omega) (by first | assumption | omega) (by first | assumption | omega) (by first | assumption | omega) (by first | assumption | omega) (by first | assumption | omega) (by first | assumption | omega) (by first | assumption | omega) (by first | assumption | omega)) m_yX12_told b_1151 (ci := 12) rfl rfl rfl hP hD hS hA [1, 2] [0] rfl (by decide) rfl (by decide) (by decide) rfl hl.1 rfl (Nat.le_of_ble_eq_true rfl) dX12_readHearer_130 ⟨(Nat.le_of_ble_eq_true rfl), (Nat.le_of_ble_eq_true rfl)⟩ ⟨(Nat.le_of_ble_eq_true rfl), (Nat.le_of_ble_eq_true rfl)⟩ (fun u758 H locs q759 hP hD hS => ?_)
          obtain ⟨q759_0, q759_1, q759_2, q759_3, q759_4, q759_5, q759_6, q759_7, q759_8⟩ := q759
          have hP : va_P g.1 vwCl [(a14, .inl (g.2 0, 225, .inl x732)), (h0, .inr (12, [.int mthrown, .ref a1, .ref a2, .ref a3, .ref a4, .int mtaped, .ref a6, .int msize, .int (u758.1 1), .int (u758.1 2), .int (u758.1 3), .int (u758.1 4), .int (u758.1 5), .int (u758.1 6), .ref a14, .ref a15, .int mgoal, .int mgoalDays, .int mgoalHearer, .ref a19, .ref a20, .int mleastOrder, .int mwordsMany, .ref a23, .ref a24, .ref a25, .ref a26, .ref a27, .ref a28])), (a4, .inl (g.2 1, 900, .inl mtape))] H := hP
          have hD : va_D A [(a14, .inl (g.2 0, 225, .inl x732)), (h0, .inr (12, [.int mthrown, .ref a1, .ref a2, .ref a3, .ref a4, .int mtaped, .ref a6, .int msize, .int (u758.1 1), .int (u758.1 2), .int (u758.1 3), .int (u758.1 4), .int (u758.1 5), .int (u758.1 6), .ref a14, .ref a15, .int mgoal, .int mgoalDays, .int mgoalHearer, .ref a19, .ref a20, .int mleastOrder, .int mwordsMany, .ref a23, .ref a24, .ref a25, .ref a26, .ref a27, .ref a28])), (a4, .inl (g.2 1, 900, .inl mtape))] := hD
          refine W.eq (g2 := F0 m 133 ls [.int (u758.1 0), .int z750, .ref a14]) rfl ?_
          refine lv_goto (tgt := 137) hx hb dX12_readHearer_133 (by decide) ?_
          refine va_iast hx hb hKn.1 hP hD hS 0 0 rfl rfl (vp_in_iff.mpr ⟨by omega, by omega⟩) dX12_readHearer_137 (fun H locs hP hD hS => ?_)
          have hP : va_P g.1 vwCl [(a14, .inl (g.2 0, 225, .inl (upd x732 (z750.toNatClampNeg) (u758.1 0)))), (h0, .inr (12, [.int mthrown, .ref a1, .ref a2, .ref a3, .ref a4, .int mtaped, .ref a6, .int msize, .int (u758.1 1), .int (u758.1 2), .int (u758.1 3), .int (u758.1 4), .int (u758.1 5), .int (u758.1 6), .ref a14, .ref a15, .int mgoal, .int mgoalDays, .int mgoalHearer, .ref a19, .ref a20, .int mleastOrder, .int mwordsMany, .ref a23, .ref a24, .ref a25, .ref a26, .ref a27, .ref a28])), (a4, .inl (g.2 1, 900, .inl mtape))] H := hP
          have hD : va_D A [(a14, .inl (g.2 0, 225, .inl (upd x732 (z750.toNatClampNeg) (u758.1 0)))), (h0, .inr (12, [.int mthrown, .ref a1, .ref a2, .ref a3, .ref a4, .int mtaped, .ref a6, .int msize, .int (u758.1 1), .int (u758.1 2), .int (u758.1 3), .int (u758.1 4), .int (u758.1 5), .int (u758.1 6), .ref a14, .ref a15, .int mgoal, .int mgoalDays, .int mgoalHearer, .ref a19, .ref a20, .int mleastOrder, .int mwordsMany, .ref a23, .ref a24, .ref a25, .ref a26, .ref a27, .ref a28])), (a4, .inl (g.2 1, 900, .inl mtape))] := hD
          have a_f760 : wok (upd x732 (z750.toNatClampNeg) (u758.1 0)) := (wx_g h_x732 (by omega) (by omega) (by omega))
          refine gn_f (upd x732 (z750.toNatClampNeg) (u758.1 0)) (fun f760 E_f760 => ?_)
          rw [E_f760] at hP hD a_f760
          have lw_f760 : (11 : Int) ≤ z750.toInt := by (try clear q5_6); (try clear q752_2); (try clear q759_6); (try clear q759_7); (try clear q759_8); (try clear hi740); omega
          have g_f760_0 : (f760 0).toInt = (x732 0).toInt := uklo E_f760 lw_f760 (by decide)
          have g_f760_2 : (f760 2).toInt = (x732 2).toInt := uklo E_f760 lw_f760 (by decide)
          have g_f760_5 : (f760 5).toInt = (x732 5).toInt := uklo E_f760 lw_f760 (by decide)
          have g_f760_6 : (f760 6).toInt = (x732 6).toInt := uklo E_f760 lw_f760 (by decide)
          have g_f760_7 : (f760 7).toInt = (x732 7).toInt := uklo E_f760 lw_f760 (by decide)
          have g_f760_8 : (f760 8).toInt = (x732 8).toInt := uklo E_f760 lw_f760 (by decide)
          have g_f760_9 : (f760 9).toInt = (x732 9).toInt := uklo E_f760 lw_f760 (by decide)
          refine lv_aload_n hx hb dX12_readHearer_138 rfl (lv_at hl 3 rfl) ?_
          refine g_get (C := RX12) (T := TX12) (N := 29) (ci := 12) (v := .ref a14) FC hKn hP i_X12 1 rfl rfl 14 (by decide) b_1132 rfl dX12_readHearer_139 ?_
          refine lv_iconst (v := 5) hx hb dX12_readHearer_142 (by decide) ?_
          refine lv_dup2_11 hx hb dX12_readHearer_143 rfl rfl ?_
          refine va_iald hx hb hKn.1 hP 0 0 rfl rfl (by unfold vp_in; decide) dX12_readHearer_144 ?_
          refine lv_topi (fun z761 e_z761 => ?_)
          have t_z761 : 0 ≤ z761.toInt ∧ z761.toInt ≤ 4 := by rw [e_z761]; exact wk_5 a_f760
          have q_z761 : z761.toInt = (f760 5).toInt := by rw [e_z761]; rfl
          refine lv_iconst (v := 1) hx hb dX12_readHearer_145 (by decide) ?_
          refine lv_iadd hx hb dX12_readHearer_146 ?_
          refine lv_topi (fun z762 e_z762 => ?_)
          have t_z762 : z762.toInt = z761.toInt + ((1 : Int32)).toInt := by rw [e_z762]; exact fb_addI (by omega) (by omega)
          refine va_iast hx hb hKn.1 hP hD hS 0 0 rfl rfl (by unfold vp_in; decide) dX12_readHearer_147 (fun H locs hP hD hS => ?_)
          have hP : va_P g.1 vwCl [(a14, .inl (g.2 0, 225, .inl (upd f760 ((5 : Int32).toNatClampNeg) z762))), (h0, .inr (12, [.int mthrown, .ref a1, .ref a2, .ref a3, .ref a4, .int mtaped, .ref a6, .int msize, .int (u758.1 1), .int (u758.1 2), .int (u758.1 3), .int (u758.1 4), .int (u758.1 5), .int (u758.1 6), .ref a14, .ref a15, .int mgoal, .int mgoalDays, .int mgoalHearer, .ref a19, .ref a20, .int mleastOrder, .int mwordsMany, .ref a23, .ref a24, .ref a25, .ref a26, .ref a27, .ref a28])), (a4, .inl (g.2 1, 900, .inl mtape))] H := hP
          have hD : va_D A [(a14, .inl (g.2 0, 225, .inl (upd f760 ((5 : Int32).toNatClampNeg) z762))), (h0, .inr (12, [.int mthrown, .ref a1, .ref a2, .ref a3, .ref a4, .int mtaped, .ref a6, .int msize, .int (u758.1 1), .int (u758.1 2), .int (u758.1 3), .int (u758.1 4), .int (u758.1 5), .int (u758.1 6), .ref a14, .ref a15, .int mgoal, .int mgoalDays, .int mgoalHearer, .ref a19, .ref a20, .int mleastOrder, .int mwordsMany, .ref a23, .ref a24, .ref a25, .ref a26, .ref a27, .ref a28])), (a4, .inl (g.2 1, 900, .inl mtape))] := hD
          have a_f763 : wok (upd f760 ((5 : Int32).toNatClampNeg) z762) := (wk_uc (k := 5) a_f760 (by omega))
          refine gn_f (upd f760 ((5 : Int32).toNatClampNeg) z762) (fun f763 E_f763 => ?_)
          rw [E_f763] at hP hD a_f763
          have g_f763_0 : (f763 0).toInt = (f760 0).toInt := by rw [← E_f763, show ((5 : Int32).toNatClampNeg : Nat) = 5 from rfl, uo (by decide)]
          have g_f763_2 : (f763 2).toInt = (f760 2).toInt := by rw [← E_f763, show ((5 : Int32).toNatClampNeg : Nat) = 5 from rfl, uo (by decide)]
          have g_f763_5 : (f763 5).toInt = z762.toInt := by rw [← E_f763, show ((5 : Int32).toNatClampNeg : Nat) = 5 from rfl, pk_us]
          have g_f763_6 : (f763 6).toInt = (f760 6).toInt := by rw [← E_f763, show ((5 : Int32).toNatClampNeg : Nat) = 5 from rfl, uo (by decide)]
          have g_f763_7 : (f763 7).toInt = (f760 7).toInt := by rw [← E_f763, show ((5 : Int32).toNatClampNeg : Nat) = 5 from rfl, uo (by decide)]
          have g_f763_8 : (f763 8).toInt = (f760 8).toInt := by rw [← E_f763, show ((5 : Int32).toNatClampNeg : Nat) = 5 from rfl, uo (by decide)]
          have g_f763_9 : (f763 9).toInt = (f760 9).toInt := by rw [← E_f763, show ((5 : Int32).toNatClampNeg : Nat) = 5 from rfl, uo (by decide)]
          exact rt_v FX ((fun k => match k with | 0 => 0 | 1 => u758.1 1 | 2 => u758.1 2 | 3 => u758.1 3 | 4 => u758.1 4 | 5 => u758.1 5 | 6 => u758.1 6 | _ => 0), (fun k => match k with | 0 => f763 | _ => fun _ => 0), (fun _ => fun _ => 0)) rfl ⟨(show 0 ≤ (u758.1 1).toInt ∧ (u758.1 1).toInt ≤ 900 by first | assumption | omega), (show 0 ≤ (u758.1 2).toInt ∧ (u758.1 2).toInt ≤ 900 by first | assumption | omega), (show 0 ≤ (u758.1 3).toInt ∧ (u758.1 3).toInt ≤ 4 by first | assumption | omega), (show 0 ≤ (u758.1 4).toInt ∧ (u758.1 4).toInt ≤ 99999 by first | assumption | omega), (show 0 ≤ (u758.1 5).toInt ∧ (u758.1 5).toInt ≤ 3 by first | assumption | omega), a_f763, (show 5 * mat.toInt - mtoken.toInt ≤ 5 * (u758.1 1).toInt - (u758.1 3).toInt from (Int.le_trans (hi739) q759_5)), (show (u758.1 5).toInt = 0 → mfaultKind.toInt = 0 from (fun h9 => (hi740 (q759_6 h9)))), (show ((f763) 0).toInt = (mfresh 0).toInt ∧ ((f763) 2).toInt = (mfresh 2).toInt from ⟨(g_f763_0.trans (g_f760_0.trans hi741)), (g_f763_2.trans (g_f760_2.trans hi742))⟩)⟩ (hP.sub [1, 2, 0] rfl) (hD.sub [1, 2, 0] (by decide) rfl) hS (Nat.le_of_ble_eq_true rfl) (Nat.le_of_ble_eq_true rfl) dX12_readHearer_148
      · have c749 := k_nle (a := z748.toInt) (b := x730.toInt) rfl rfl c749
        refine lv_iload_n hx hb dX12_readHearer_33 rfl (lv_at hl 0 rfl) ?_
        refine lv_aload_n hx hb dX12_readHearer_34 rfl (lv_at hl 3 rfl) ?_
        refine g_get (C := RX12) (T := TX12) (N := 29) (ci := 12) (v := .ref a14) FC hKn hP i_X12 1 rfl rfl 14 (by decide) b_1132 rfl dX12_readHearer_35 ?_
        refine lv_iconst (v := 0) hx hb dX12_readHearer_38 (by decide) ?_
        refine va_iald hx hb hKn.1 hP 0 0 rfl rfl (by unfold vp_in; decide) dX12_readHearer_39 ?_
        refine tp_i (v := z748) e_z748.symm ?_
        refine lv_iconst (v := 1) hx hb dX12_readHearer_40 (by decide) ?_
        refine lv_isub hx hb dX12_readHearer_41 ?_
        have kc1 : (1 : Int32).toInt = 1 := by decide
        refine lv_topi (fun z764 e_z764 => ?_)
        have t_z764 : z764.toInt = z748.toInt - ((1 : Int32)).toInt := by rw [e_z764]; exact fb_subI (by omega) (by omega)
        refine lv_icmp_ne (tgt := 76) hx hb dX12_readHearer_42 (by decide) (fun c765 => ?_) (fun c765 => ?_)
        · have c765 := k_ne (a := x730.toInt) (b := z764.toInt) rfl rfl c765
          refine lv_aload_n hx hb dX12_readHearer_76 rfl (lv_at hl 3 rfl) ?_
          refine g_get (C := RX12) (T := TX12) (N := 29) (ci := 12) (v := .ref a14) FC hKn hP i_X12 1 rfl rfl 14 (by decide) b_1132 rfl dX12_readHearer_77 ?_
          refine lv_iload_n hx hb dX12_readHearer_80 rfl (lv_at hl 2 rfl) ?_
          refine lv_iload_n hx hb dX12_readHearer_81 rfl (lv_at hl 0 rfl) ?_
          refine lv_iadd hx hb dX12_readHearer_82 ?_
          refine lv_topi (fun z766 e_z766 => ?_)
          have t_z766 : z766.toInt = z3.toInt + x730.toInt := by rw [e_z766]; exact fb_addI (by omega) (by omega)
          refine lv_aload_n hx hb dX12_readHearer_83 rfl (lv_at hl 3 rfl) ?_
          refine lv_iconst (v := 0) hx hb dX12_readHearer_84 (by decide) ?_
          refine lv_bipush (v := 20) hx hb dX12_readHearer_85 (by decide) ?_
          have kc20 : (20 : Int32).toInt = 20 := by decide
          refine call_V (As := [.int 0, .int 20]) (rest := [.int z766, .ref a14]) (wr := [(a14, .inl (g.2 0, 225, .inl x732))]) FC hKn hZ (k_X12_number l g h0 a1 a2 a3 a4 a6 a14 a15 a19 a20 a23 a24 a25 a26 a27 a28 mthrown mtaped msize x733 x734 x735 x736 x737 x738 mgoal mgoalDays mgoalHearer mleastOrder mwordsMany mtape ((0 : Int32)) ((20 : Int32)) (by first | assumption | omega) (by first | assumption | omega) (by first | assumption | omega) (by first | assumption | omega) (by first | assumption | omega) (by first | assumption | omega) (by first | assumption | omega) (by first | assumption | omega) (by first | assumption | omega)) m_yX12_number b_1131 (ci := 12) rfl rfl rfl hP hD hS hA [1, 2] [0] rfl (by decide) rfl (by decide) (by decide) rfl hl.1 rfl (Nat.le_of_ble_eq_true rfl) dX12_readHearer_87 ⟨(Nat.le_of_ble_eq_true rfl), (Nat.le_of_ble_eq_true rfl)⟩ ⟨(Nat.le_of_ble_eq_true rfl), (Nat.le_of_ble_eq_true rfl)⟩ (fun u767 H locs q768 hP hD hS => ?_)
          obtain ⟨q768_0, q768_1, q768_2, q768_3, q768_4, q768_5, q768_6, q768_7, q768_8, q768_9⟩ := q768
          have hP : va_P g.1 vwCl [(a14, .inl (g.2 0, 225, .inl x732)), (h0, .inr (12, [.int mthrown, .ref a1, .ref a2, .ref a3, .ref a4, .int mtaped, .ref a6, .int msize, .int (u767.1 1), .int (u767.1 2), .int (u767.1 3), .int (u767.1 4), .int (u767.1 5), .int (u767.1 6), .ref a14, .ref a15, .int mgoal, .int mgoalDays, .int mgoalHearer, .ref a19, .ref a20, .int mleastOrder, .int mwordsMany, .ref a23, .ref a24, .ref a25, .ref a26, .ref a27, .ref a28])), (a4, .inl (g.2 1, 900, .inl mtape))] H := hP
          have hD : va_D A [(a14, .inl (g.2 0, 225, .inl x732)), (h0, .inr (12, [.int mthrown, .ref a1, .ref a2, .ref a3, .ref a4, .int mtaped, .ref a6, .int msize, .int (u767.1 1), .int (u767.1 2), .int (u767.1 3), .int (u767.1 4), .int (u767.1 5), .int (u767.1 6), .ref a14, .ref a15, .int mgoal, .int mgoalDays, .int mgoalHearer, .ref a19, .ref a20, .int mleastOrder, .int mwordsMany, .ref a23, .ref a24, .ref a25, .ref a26, .ref a27, .ref a28])), (a4, .inl (g.2 1, 900, .inl mtape))] := hD
          refine W.eq (g2 := F0 m 90 ls [.int (u767.1 0), .int z766, .ref a14]) rfl ?_
          refine va_iast hx hb hKn.1 hP hD hS 0 0 rfl rfl (vp_in_iff.mpr ⟨by omega, by omega⟩) dX12_readHearer_90 (fun H locs hP hD hS => ?_)
          have hP : va_P g.1 vwCl [(a14, .inl (g.2 0, 225, .inl (upd x732 (z766.toNatClampNeg) (u767.1 0)))), (h0, .inr (12, [.int mthrown, .ref a1, .ref a2, .ref a3, .ref a4, .int mtaped, .ref a6, .int msize, .int (u767.1 1), .int (u767.1 2), .int (u767.1 3), .int (u767.1 4), .int (u767.1 5), .int (u767.1 6), .ref a14, .ref a15, .int mgoal, .int mgoalDays, .int mgoalHearer, .ref a19, .ref a20, .int mleastOrder, .int mwordsMany, .ref a23, .ref a24, .ref a25, .ref a26, .ref a27, .ref a28])), (a4, .inl (g.2 1, 900, .inl mtape))] H := hP
          have hD : va_D A [(a14, .inl (g.2 0, 225, .inl (upd x732 (z766.toNatClampNeg) (u767.1 0)))), (h0, .inr (12, [.int mthrown, .ref a1, .ref a2, .ref a3, .ref a4, .int mtaped, .ref a6, .int msize, .int (u767.1 1), .int (u767.1 2), .int (u767.1 3), .int (u767.1 4), .int (u767.1 5), .int (u767.1 6), .ref a14, .ref a15, .int mgoal, .int mgoalDays, .int mgoalHearer, .ref a19, .ref a20, .int mleastOrder, .int mwordsMany, .ref a23, .ref a24, .ref a25, .ref a26, .ref a27, .ref a28])), (a4, .inl (g.2 1, 900, .inl mtape))] := hD
          have a_f769 : wok (upd x732 (z766.toNatClampNeg) (u767.1 0)) := (wx_g h_x732 (by omega) (by omega) (by omega))
          refine gn_f (upd x732 (z766.toNatClampNeg) (u767.1 0)) (fun f769 E_f769 => ?_)
          rw [E_f769] at hP hD a_f769
          have lw_f769 : (11 : Int) ≤ z766.toInt := by (try clear q5_6); (try clear q768_6); (try clear q768_7); (try clear q768_8); (try clear q768_9); (try clear hi740); omega
          have g_f769_0 : (f769 0).toInt = (x732 0).toInt := uklo E_f769 lw_f769 (by decide)
          have g_f769_2 : (f769 2).toInt = (x732 2).toInt := uklo E_f769 lw_f769 (by decide)
          have g_f769_5 : (f769 5).toInt = (x732 5).toInt := uklo E_f769 lw_f769 (by decide)
          have g_f769_6 : (f769 6).toInt = (x732 6).toInt := uklo E_f769 lw_f769 (by decide)
          have g_f769_7 : (f769 7).toInt = (x732 7).toInt := uklo E_f769 lw_f769 (by decide)
          have g_f769_8 : (f769 8).toInt = (x732 8).toInt := uklo E_f769 lw_f769 (by decide)
          have g_f769_9 : (f769 9).toInt = (x732 9).toInt := uklo E_f769 lw_f769 (by decide)
          refine lv_iload_n hx hb dX12_readHearer_91 rfl (lv_at hl 1 rfl) ?_
          refine lv_aload_n hx hb dX12_readHearer_92 rfl (lv_at hl 3 rfl) ?_
          refine g_get (C := RX12) (T := TX12) (N := 29) (ci := 12) (v := .ref a14) FC hKn hP i_X12 1 rfl rfl 14 (by decide) b_1132 rfl dX12_readHearer_93 ?_
          refine lv_iload_n hx hb dX12_readHearer_96 rfl (lv_at hl 2 rfl) ?_
          refine lv_iload_n hx hb dX12_readHearer_97 rfl (lv_at hl 0 rfl) ?_
          refine lv_iadd hx hb dX12_readHearer_98 ?_
          refine lv_topi (fun z770 e_z770 => ?_)
          have t_z770 : z770.toInt = z3.toInt + x730.toInt := by rw [e_z770]; exact fb_addI (by omega) (by omega)
          refine va_iald hx hb hKn.1 hP 0 0 rfl rfl (vp_in_iff.mpr ⟨by omega, by omega⟩) dX12_readHearer_99 ?_
          refine lv_topi (fun z771 e_z771 => ?_)
          have t_z771 : 0 ≤ z771.toInt ∧ z771.toInt ≤ 99 := by rw [e_z771]; exact wk_g a_f769 (by omega) (by omega)
          have q_z771 : z771.toInt = (f769 z770.toNatClampNeg).toInt := by rw [e_z771]
          refine lv_iadd hx hb dX12_readHearer_100 ?_
          refine lv_topi (fun z772 e_z772 => ?_)
          refine lv_istore_n (lv' := [(2, .int z772), (3, .int x730), (1, .int z3), (0, .ref h0)]) hx hb dX12_readHearer_101 rfl hl (by decide) rfl (fun ls hl => ?_)
          obtain ⟨z773, e_z773⟩ : ∃ y : Int32, y = x730 + 1 := ⟨_, rfl⟩
          have t_z773 : z773.toInt = x730.toInt + 1 := by rw [e_z773]; exact addk (by decide) (by omega) (by omega)
          refine lv_iinc (v := z773) (lv' := [(3, .int z773), (2, .int z772), (1, .int z3), (0, .ref h0)]) hx hb dX12_readHearer_102 hl (k := 1) rfl (by rw [e_z773]; rfl) (by decide) rfl (fun ls hl => ?_)
          refine lv_goto (tgt := 23) hx hb dX12_readHearer_105 (by decide) ?_
          exact ih745 z773 z772 f769 (u767.1 1) (u767.1 2) (u767.1 3) (u767.1 4) (u767.1 5) (u767.1 6) _ _ ls (by first | assumption | omega) a_f769 (by first | assumption | omega) (by first | assumption | omega) (by first | assumption | omega) (by first | assumption | omega) (by first | assumption | omega) (Int.le_trans (hi739) q768_5) (fun h9 => (hi740 (q768_6 h9))) (g_f769_0.trans hi741) (g_f769_2.trans hi742) (g_f769_5.trans hi743) (by omega) hP hD hS (lv_sub hl [0, 1, 2, 3] rfl)
        · have c765 := k_eq (a := x730.toInt) (b := z764.toInt) rfl rfl c765
          refine lv_iload_n hx hb dX12_readHearer_45 rfl (lv_at hl 1 rfl) ?_
          refine lv_if_ne (tgt := 76) hx hb dX12_readHearer_46 (by decide) (fun c774 => ?_) (fun c774 => ?_)
          · have c774 := k_ne (a := x731.toInt) (b := 0) rfl (by decide) c774
            refine lv_aload_n hx hb dX12_readHearer_76 rfl (lv_at hl 3 rfl) ?_
            refine g_get (C := RX12) (T := TX12) (N := 29) (ci := 12) (v := .ref a14) FC hKn hP i_X12 1 rfl rfl 14 (by decide) b_1132 rfl dX12_readHearer_77 ?_
            refine lv_iload_n hx hb dX12_readHearer_80 rfl (lv_at hl 2 rfl) ?_
            refine lv_iload_n hx hb dX12_readHearer_81 rfl (lv_at hl 0 rfl) ?_
            refine lv_iadd hx hb dX12_readHearer_82 ?_
            refine lv_topi (fun z775 e_z775 => ?_)
            have t_z775 : z775.toInt = z3.toInt + x730.toInt := by rw [e_z775]; exact fb_addI (by omega) (by omega)
            refine lv_aload_n hx hb dX12_readHearer_83 rfl (lv_at hl 3 rfl) ?_
            refine lv_iconst (v := 0) hx hb dX12_readHearer_84 (by decide) ?_
            refine lv_bipush (v := 20) hx hb dX12_readHearer_85 (by decide) ?_
            have kc20 : (20 : Int32).toInt = 20 := by decide
            refine call_V (As := [.int 0, .int 20]) (rest := [.int z775, .ref a14]) (wr := [(a14, .inl (g.2 0, 225, .inl x732))]) FC hKn hZ (k_X12_number l g h0 a1 a2 a3 a4 a6 a14 a15 a19 a20 a23 a24 a25 a26 a27 a28 mthrown mtaped msize x733 x734 x735 x736 x737 x738 mgoal mgoalDays mgoalHearer mleastOrder mwordsMany mtape ((0 : Int32)) ((20 : Int32)) (by first | assumption | omega) (by first | assumption | omega) (by first | assumption | omega) (by first | assumption | omega) (by first | assumption | omega) (by first | assumption | omega) (by first | assumption | omega) (by first | assumption | omega) (by first | assumption | omega)) m_yX12_number b_1131 (ci := 12) rfl rfl rfl hP hD hS hA [1, 2] [0] rfl (by decide) rfl (by decide) (by decide) rfl hl.1 rfl (Nat.le_of_ble_eq_true rfl) dX12_readHearer_87 ⟨(Nat.le_of_ble_eq_true rfl), (Nat.le_of_ble_eq_true rfl)⟩ ⟨(Nat.le_of_ble_eq_true rfl), (Nat.le_of_ble_eq_true rfl)⟩ (fun u776 H locs q777 hP hD hS => ?_)
            obtain ⟨q777_0, q777_1, q777_2, q777_3, q777_4, q777_5, q777_6, q777_7, q777_8, q777_9⟩ := q777
            have hP : va_P g.1 vwCl [(a14, .inl (g.2 0, 225, .inl x732)), (h0, .inr (12, [.int mthrown, .ref a1, .ref a2, .ref a3, .ref a4, .int mtaped, .ref a6, .int msize, .int (u776.1 1), .int (u776.1 2), .int (u776.1 3), .int (u776.1 4), .int (u776.1 5), .int (u776.1 6), .ref a14, .ref a15, .int mgoal, .int mgoalDays, .int mgoalHearer, .ref a19, .ref a20, .int mleastOrder, .int mwordsMany, .ref a23, .ref a24, .ref a25, .ref a26, .ref a27, .ref a28])), (a4, .inl (g.2 1, 900, .inl mtape))] H := hP
            have hD : va_D A [(a14, .inl (g.2 0, 225, .inl x732)), (h0, .inr (12, [.int mthrown, .ref a1, .ref a2, .ref a3, .ref a4, .int mtaped, .ref a6, .int msize, .int (u776.1 1), .int (u776.1 2), .int (u776.1 3), .int (u776.1 4), .int (u776.1 5), .int (u776.1 6), .ref a14, .ref a15, .int mgoal, .int mgoalDays, .int mgoalHearer, .ref a19, .ref a20, .int mleastOrder, .int mwordsMany, .ref a23, .ref a24, .ref a25, .ref a26, .ref a27, .ref a28])), (a4, .inl (g.2 1, 900, .inl mtape))] := hD
            refine W.eq (g2 := F0 m 90 ls [.int (u776.1 0), .int z775, .ref a14]) rfl ?_
            refine va_iast hx hb hKn.1 hP hD hS 0 0 rfl rfl (vp_in_iff.mpr ⟨by omega, by omega⟩) dX12_readHearer_90 (fun H locs hP hD hS => ?_)
            have hP : va_P g.1 vwCl [(a14, .inl (g.2 0, 225, .inl (upd x732 (z775.toNatClampNeg) (u776.1 0)))), (h0, .inr (12, [.int mthrown, .ref a1, .ref a2, .ref a3, .ref a4, .int mtaped, .ref a6, .int msize, .int (u776.1 1), .int (u776.1 2), .int (u776.1 3), .int (u776.1 4), .int (u776.1 5), .int (u776.1 6), .ref a14, .ref a15, .int mgoal, .int mgoalDays, .int mgoalHearer, .ref a19, .ref a20, .int mleastOrder, .int mwordsMany, .ref a23, .ref a24, .ref a25, .ref a26, .ref a27, .ref a28])), (a4, .inl (g.2 1, 900, .inl mtape))] H := hP
            have hD : va_D A [(a14, .inl (g.2 0, 225, .inl (upd x732 (z775.toNatClampNeg) (u776.1 0)))), (h0, .inr (12, [.int mthrown, .ref a1, .ref a2, .ref a3, .ref a4, .int mtaped, .ref a6, .int msize, .int (u776.1 1), .int (u776.1 2), .int (u776.1 3), .int (u776.1 4), .int (u776.1 5), .int (u776.1 6), .ref a14, .ref a15, .int mgoal, .int mgoalDays, .int mgoalHearer, .ref a19, .ref a20, .int mleastOrder, .int mwordsMany, .ref a23, .ref a24, .ref a25, .ref a26, .ref a27, .ref a28])), (a4, .inl (g.2 1, 900, .inl mtape))] := hD
            have a_f778 : wok (upd x732 (z775.toNatClampNeg) (u776.1 0)) := (wx_g h_x732 (by omega) (by omega) (by omega))
            refine gn_f (upd x732 (z775.toNatClampNeg) (u776.1 0)) (fun f778 E_f778 => ?_)
            rw [E_f778] at hP hD a_f778
            have lw_f778 : (11 : Int) ≤ z775.toInt := by (try clear q5_6); (try clear q777_6); (try clear q777_7); (try clear q777_8); (try clear q777_9); (try clear hi740); omega
            have g_f778_0 : (f778 0).toInt = (x732 0).toInt := uklo E_f778 lw_f778 (by decide)
            have g_f778_2 : (f778 2).toInt = (x732 2).toInt := uklo E_f778 lw_f778 (by decide)
            have g_f778_5 : (f778 5).toInt = (x732 5).toInt := uklo E_f778 lw_f778 (by decide)
            have g_f778_6 : (f778 6).toInt = (x732 6).toInt := uklo E_f778 lw_f778 (by decide)
            have g_f778_7 : (f778 7).toInt = (x732 7).toInt := uklo E_f778 lw_f778 (by decide)
            have g_f778_8 : (f778 8).toInt = (x732 8).toInt := uklo E_f778 lw_f778 (by decide)
            have g_f778_9 : (f778 9).toInt = (x732 9).toInt := uklo E_f778 lw_f778 (by decide)
            refine lv_iload_n hx hb dX12_readHearer_91 rfl (lv_at hl 1 rfl) ?_
            refine lv_aload_n hx hb dX12_readHearer_92 rfl (lv_at hl 3 rfl) ?_
            refine g_get (C := RX12) (T := TX12) (N := 29) (ci := 12) (v := .ref a14) FC hKn hP i_X12 1 rfl rfl 14 (by decide) b_1132 rfl dX12_readHearer_93 ?_
            refine lv_iload_n hx hb dX12_readHearer_96 rfl (lv_at hl 2 rfl) ?_
            refine lv_iload_n hx hb dX12_readHearer_97 rfl (lv_at hl 0 rfl) ?_
            refine lv_iadd hx hb dX12_readHearer_98 ?_
            refine lv_topi (fun z779 e_z779 => ?_)
            have t_z779 : z779.toInt = z3.toInt + x730.toInt := by rw [e_z779]; exact fb_addI (by omega) (by omega)
            refine va_iald hx hb hKn.1 hP 0 0 rfl rfl (vp_in_iff.mpr ⟨by omega, by omega⟩) dX12_readHearer_99 ?_
            refine lv_topi (fun z780 e_z780 => ?_)
            have t_z780 : 0 ≤ z780.toInt ∧ z780.toInt ≤ 99 := by rw [e_z780]; exact wk_g a_f778 (by omega) (by omega)
            have q_z780 : z780.toInt = (f778 z779.toNatClampNeg).toInt := by rw [e_z780]
            refine lv_iadd hx hb dX12_readHearer_100 ?_
            refine lv_topi (fun z781 e_z781 => ?_)
            refine lv_istore_n (lv' := [(2, .int z781), (3, .int x730), (1, .int z3), (0, .ref h0)]) hx hb dX12_readHearer_101 rfl hl (by decide) rfl (fun ls hl => ?_)
            obtain ⟨z782, e_z782⟩ : ∃ y : Int32, y = x730 + 1 := ⟨_, rfl⟩
            have t_z782 : z782.toInt = x730.toInt + 1 := by rw [e_z782]; exact addk (by decide) (by omega) (by omega)
            refine lv_iinc (v := z782) (lv' := [(3, .int z782), (2, .int z781), (1, .int z3), (0, .ref h0)]) hx hb dX12_readHearer_102 hl (k := 1) rfl (by rw [e_z782]; rfl) (by decide) rfl (fun ls hl => ?_)
            refine lv_goto (tgt := 23) hx hb dX12_readHearer_105 (by decide) ?_
            exact ih745 z782 z781 f778 (u776.1 1) (u776.1 2) (u776.1 3) (u776.1 4) (u776.1 5) (u776.1 6) _ _ ls (by first | assumption | omega) a_f778 (by first | assumption | omega) (by first | assumption | omega) (by first | assumption | omega) (by first | assumption | omega) (by first | assumption | omega) (Int.le_trans (hi739) q777_5) (fun h9 => (hi740 (q777_6 h9))) (g_f778_0.trans hi741) (g_f778_2.trans hi742) (g_f778_5.trans hi743) (by omega) hP hD hS (lv_sub hl [0, 1, 2, 3] rfl)
          · have c774 := k_eq (a := x731.toInt) (b := 0) rfl (by decide) c774
            refine lv_aload_n hx hb dX12_readHearer_49 rfl (lv_at hl 3 rfl) ?_
            refine call_V (As := []) (rest := []) (wr := [(a14, .inl (g.2 0, 225, .inl x732)), (a4, .inl (g.2 1, 900, .inl mtape))]) FC hKn hZ (k_X12_good l g h0 a1 a2 a3 a4 a6 a14 a15 a19 a20 a23 a24 a25 a26 a27 a28 mthrown mtaped msize x733 x734 x735 x736 x737 x738 mgoal mgoalDays mgoalHearer mleastOrder mwordsMany (by first | assumption | omega) (by first | assumption | omega) (by first | assumption | omega) (by first | assumption | omega) (by first | assumption | omega) (by first | assumption | omega) (by first | assumption | omega) (by first | assumption | omega) (by first | assumption | omega)) m_yX12_good b_1117 (ci := 12) rfl rfl rfl hP hD hS hA [1] [0, 2] rfl (by decide) rfl (by decide) (by decide) rfl hl.1 rfl (Nat.le_of_ble_eq_true rfl) dX12_readHearer_50 ⟨(Nat.le_of_ble_eq_true rfl), (Nat.le_of_ble_eq_true rfl)⟩ ⟨(Nat.le_of_ble_eq_true rfl), (Nat.le_of_ble_eq_true rfl)⟩ (fun u783 H locs q784 hP hD hS => ?_)
            obtain ⟨q784_0, q784_1⟩ := q784
            have hP : va_P g.1 vwCl [(a14, .inl (g.2 0, 225, .inl x732)), (a4, .inl (g.2 1, 900, .inl mtape)), (h0, .inr (12, [.int mthrown, .ref a1, .ref a2, .ref a3, .ref a4, .int mtaped, .ref a6, .int msize, .int x733, .int x734, .int x735, .int x736, .int x737, .int x738, .ref a14, .ref a15, .int mgoal, .int mgoalDays, .int mgoalHearer, .ref a19, .ref a20, .int mleastOrder, .int mwordsMany, .ref a23, .ref a24, .ref a25, .ref a26, .ref a27, .ref a28]))] H := hP
            have hD : va_D A [(a14, .inl (g.2 0, 225, .inl x732)), (a4, .inl (g.2 1, 900, .inl mtape)), (h0, .inr (12, [.int mthrown, .ref a1, .ref a2, .ref a3, .ref a4, .int mtaped, .ref a6, .int msize, .int x733, .int x734, .int x735, .int x736, .int x737, .int x738, .ref a14, .ref a15, .int mgoal, .int mgoalDays, .int mgoalHearer, .ref a19, .ref a20, .int mleastOrder, .int mwordsMany, .ref a23, .ref a24, .ref a25, .ref a26, .ref a27, .ref a28]))] := hD
            refine W.eq (g2 := F0 m 53 ls [.int (u783.1 0)]) rfl ?_
            rcases (show x737.toInt = 0 ∨ x737.toInt ≠ 0 by omega) with c785 | c785
            · skip
              refine tp_i (v := 1) (Int32.toInt_inj.mp (show (u783.1 0).toInt = (1 : Int32).toInt by rw [show (1 : Int32).toInt = 1 by decide]; omega)) ?_
              refine lv_if_eq (tgt := 76) hx hb dX12_readHearer_53 (by decide) (fun h => absurd h (by decide)) (fun _ => ?_)
              refine lv_aload_n hx hb dX12_readHearer_56 rfl (lv_at hl 3 rfl) ?_
              refine g_get (C := RX12) (T := TX12) (N := 29) (ci := 12) (v := .int x735) FC hKn hP i_X12 2 rfl rfl 10 (by decide) b_1114 rfl dX12_readHearer_57 ?_
              refine lv_iconst (v := 2) hx hb dX12_readHearer_60 (by decide) ?_
              refine lv_icmp_ne (tgt := 76) hx hb dX12_readHearer_61 (by decide) (fun c786 => ?_) (fun c786 => ?_)
              · have c786 := k_ne (a := x735.toInt) (b := 2) rfl (by decide) c786
                refine lv_aload_n hx hb dX12_readHearer_76 rfl (lv_at hl 3 rfl) ?_
                refine g_get (C := RX12) (T := TX12) (N := 29) (ci := 12) (v := .ref a14) FC hKn hP i_X12 2 rfl rfl 14 (by decide) b_1132 rfl dX12_readHearer_77 ?_
                refine lv_iload_n hx hb dX12_readHearer_80 rfl (lv_at hl 2 rfl) ?_
                refine lv_iload_n hx hb dX12_readHearer_81 rfl (lv_at hl 0 rfl) ?_
                refine lv_iadd hx hb dX12_readHearer_82 ?_
                refine lv_topi (fun z787 e_z787 => ?_)
                have t_z787 : z787.toInt = z3.toInt + x730.toInt := by rw [e_z787]; exact fb_addI (by omega) (by omega)
                refine lv_aload_n hx hb dX12_readHearer_83 rfl (lv_at hl 3 rfl) ?_
                refine lv_iconst (v := 0) hx hb dX12_readHearer_84 (by decide) ?_
                refine lv_bipush (v := 20) hx hb dX12_readHearer_85 (by decide) ?_
                have kc20 : (20 : Int32).toInt = 20 := by decide
                refine call_V (As := [.int 0, .int 20]) (rest := [.int z787, .ref a14]) (wr := [(a14, .inl (g.2 0, 225, .inl x732))]) FC hKn hZ (k_X12_number l g h0 a1 a2 a3 a4 a6 a14 a15 a19 a20 a23 a24 a25 a26 a27 a28 mthrown mtaped msize x733 x734 x735 x736 x737 x738 mgoal mgoalDays mgoalHearer mleastOrder mwordsMany mtape ((0 : Int32)) ((20 : Int32)) (by first | assumption | omega) (by first | assumption | omega) (by first | assumption | omega) (by first | assumption | omega) (by first | assumption | omega) (by first | assumption | omega) (by first | assumption | omega) (by first | assumption | omega) (by first | assumption | omega)) m_yX12_number b_1131 (ci := 12) rfl rfl rfl hP hD hS hA [2, 1] [0] rfl (by decide) rfl (by decide) (by decide) rfl hl.1 rfl (Nat.le_of_ble_eq_true rfl) dX12_readHearer_87 ⟨(Nat.le_of_ble_eq_true rfl), (Nat.le_of_ble_eq_true rfl)⟩ ⟨(Nat.le_of_ble_eq_true rfl), (Nat.le_of_ble_eq_true rfl)⟩ (fun u788 H locs q789 hP hD hS => ?_)
                obtain ⟨q789_0, q789_1, q789_2, q789_3, q789_4, q789_5, q789_6, q789_7, q789_8, q789_9⟩ := q789
                have hP : va_P g.1 vwCl [(a14, .inl (g.2 0, 225, .inl x732)), (h0, .inr (12, [.int mthrown, .ref a1, .ref a2, .ref a3, .ref a4, .int mtaped, .ref a6, .int msize, .int (u788.1 1), .int (u788.1 2), .int (u788.1 3), .int (u788.1 4), .int (u788.1 5), .int (u788.1 6), .ref a14, .ref a15, .int mgoal, .int mgoalDays, .int mgoalHearer, .ref a19, .ref a20, .int mleastOrder, .int mwordsMany, .ref a23, .ref a24, .ref a25, .ref a26, .ref a27, .ref a28])), (a4, .inl (g.2 1, 900, .inl mtape))] H := hP
                have hD : va_D A [(a14, .inl (g.2 0, 225, .inl x732)), (h0, .inr (12, [.int mthrown, .ref a1, .ref a2, .ref a3, .ref a4, .int mtaped, .ref a6, .int msize, .int (u788.1 1), .int (u788.1 2), .int (u788.1 3), .int (u788.1 4), .int (u788.1 5), .int (u788.1 6), .ref a14, .ref a15, .int mgoal, .int mgoalDays, .int mgoalHearer, .ref a19, .ref a20, .int mleastOrder, .int mwordsMany, .ref a23, .ref a24, .ref a25, .ref a26, .ref a27, .ref a28])), (a4, .inl (g.2 1, 900, .inl mtape))] := hD
                refine W.eq (g2 := F0 m 90 ls [.int (u788.1 0), .int z787, .ref a14]) rfl ?_
                refine va_iast hx hb hKn.1 hP hD hS 0 0 rfl rfl (vp_in_iff.mpr ⟨by omega, by omega⟩) dX12_readHearer_90 (fun H locs hP hD hS => ?_)
                have hP : va_P g.1 vwCl [(a14, .inl (g.2 0, 225, .inl (upd x732 (z787.toNatClampNeg) (u788.1 0)))), (h0, .inr (12, [.int mthrown, .ref a1, .ref a2, .ref a3, .ref a4, .int mtaped, .ref a6, .int msize, .int (u788.1 1), .int (u788.1 2), .int (u788.1 3), .int (u788.1 4), .int (u788.1 5), .int (u788.1 6), .ref a14, .ref a15, .int mgoal, .int mgoalDays, .int mgoalHearer, .ref a19, .ref a20, .int mleastOrder, .int mwordsMany, .ref a23, .ref a24, .ref a25, .ref a26, .ref a27, .ref a28])), (a4, .inl (g.2 1, 900, .inl mtape))] H := hP
                have hD : va_D A [(a14, .inl (g.2 0, 225, .inl (upd x732 (z787.toNatClampNeg) (u788.1 0)))), (h0, .inr (12, [.int mthrown, .ref a1, .ref a2, .ref a3, .ref a4, .int mtaped, .ref a6, .int msize, .int (u788.1 1), .int (u788.1 2), .int (u788.1 3), .int (u788.1 4), .int (u788.1 5), .int (u788.1 6), .ref a14, .ref a15, .int mgoal, .int mgoalDays, .int mgoalHearer, .ref a19, .ref a20, .int mleastOrder, .int mwordsMany, .ref a23, .ref a24, .ref a25, .ref a26, .ref a27, .ref a28])), (a4, .inl (g.2 1, 900, .inl mtape))] := hD
                have a_f790 : wok (upd x732 (z787.toNatClampNeg) (u788.1 0)) := (wx_g h_x732 (by omega) (by omega) (by omega))
                refine gn_f (upd x732 (z787.toNatClampNeg) (u788.1 0)) (fun f790 E_f790 => ?_)
                rw [E_f790] at hP hD a_f790
                have lw_f790 : (11 : Int) ≤ z787.toInt := by (try clear q5_6); (try clear q789_6); (try clear q789_7); (try clear q789_8); (try clear q789_9); (try clear hi740); omega
                have g_f790_0 : (f790 0).toInt = (x732 0).toInt := uklo E_f790 lw_f790 (by decide)
                have g_f790_2 : (f790 2).toInt = (x732 2).toInt := uklo E_f790 lw_f790 (by decide)
                have g_f790_5 : (f790 5).toInt = (x732 5).toInt := uklo E_f790 lw_f790 (by decide)
                have g_f790_6 : (f790 6).toInt = (x732 6).toInt := uklo E_f790 lw_f790 (by decide)
                have g_f790_7 : (f790 7).toInt = (x732 7).toInt := uklo E_f790 lw_f790 (by decide)
                have g_f790_8 : (f790 8).toInt = (x732 8).toInt := uklo E_f790 lw_f790 (by decide)
                have g_f790_9 : (f790 9).toInt = (x732 9).toInt := uklo E_f790 lw_f790 (by decide)
                refine lv_iload_n hx hb dX12_readHearer_91 rfl (lv_at hl 1 rfl) ?_
                refine lv_aload_n hx hb dX12_readHearer_92 rfl (lv_at hl 3 rfl) ?_
                refine g_get (C := RX12) (T := TX12) (N := 29) (ci := 12) (v := .ref a14) FC hKn hP i_X12 1 rfl rfl 14 (by decide) b_1132 rfl dX12_readHearer_93 ?_
                refine lv_iload_n hx hb dX12_readHearer_96 rfl (lv_at hl 2 rfl) ?_
                refine lv_iload_n hx hb dX12_readHearer_97 rfl (lv_at hl 0 rfl) ?_
                refine lv_iadd hx hb dX12_readHearer_98 ?_
                refine lv_topi (fun z791 e_z791 => ?_)
                have t_z791 : z791.toInt = z3.toInt + x730.toInt := by rw [e_z791]; exact fb_addI (by omega) (by omega)
                refine va_iald hx hb hKn.1 hP 0 0 rfl rfl (vp_in_iff.mpr ⟨by omega, by omega⟩) dX12_readHearer_99 ?_
                refine lv_topi (fun z792 e_z792 => ?_)
                have t_z792 : 0 ≤ z792.toInt ∧ z792.toInt ≤ 99 := by rw [e_z792]; exact wk_g a_f790 (by omega) (by omega)
                have q_z792 : z792.toInt = (f790 z791.toNatClampNeg).toInt := by rw [e_z792]
                refine lv_iadd hx hb dX12_readHearer_100 ?_
                refine lv_topi (fun z793 e_z793 => ?_)
                have t_z793 : z793.toInt = x731.toInt + z792.toInt := by rw [e_z793]; exact fb_addI (by omega) (by omega)
                refine lv_istore_n (lv' := [(2, .int z793), (3, .int x730), (1, .int z3), (0, .ref h0)]) hx hb dX12_readHearer_101 rfl hl (by decide) rfl (fun ls hl => ?_)
                obtain ⟨z794, e_z794⟩ : ∃ y : Int32, y = x730 + 1 := ⟨_, rfl⟩
                have t_z794 : z794.toInt = x730.toInt + 1 := by rw [e_z794]; exact addk (by decide) (by omega) (by omega)
                refine lv_iinc (v := z794) (lv' := [(3, .int z794), (2, .int z793), (1, .int z3), (0, .ref h0)]) hx hb dX12_readHearer_102 hl (k := 1) rfl (by rw [e_z794]; rfl) (by decide) rfl (fun ls hl => ?_)
                refine lv_goto (tgt := 23) hx hb dX12_readHearer_105 (by decide) ?_
                exact ih745 z794 z793 f790 (u788.1 1) (u788.1 2) (u788.1 3) (u788.1 4) (u788.1 5) (u788.1 6) _ _ ls (by first | assumption | omega) a_f790 (by first | assumption | omega) (by first | assumption | omega) (by first | assumption | omega) (by first | assumption | omega) (by first | assumption | omega) (Int.le_trans (hi739) q789_5) (fun h9 => (hi740 (q789_6 h9))) (g_f790_0.trans hi741) (g_f790_2.trans hi742) (g_f790_5.trans hi743) (by omega) hP hD hS (lv_sub hl [0, 1, 2, 3] rfl)
              · have c786 := k_eq (a := x735.toInt) (b := 2) rfl (by decide) c786
                refine lv_aload_n hx hb dX12_readHearer_64 rfl (lv_at hl 3 rfl) ?_
                refine g_get (C := RX12) (T := TX12) (N := 29) (ci := 12) (v := .int x736) FC hKn hP i_X12 2 rfl rfl 11 (by decide) b_1115 rfl dX12_readHearer_65 ?_
                refine lv_if_ne (tgt := 76) hx hb dX12_readHearer_68 (by decide) (fun c795 => ?_) (fun c795 => ?_)
                · have c795 := k_ne (a := x736.toInt) (b := 0) rfl (by decide) c795
                  refine lv_aload_n hx hb dX12_readHearer_76 rfl (lv_at hl 3 rfl) ?_
                  refine g_get (C := RX12) (T := TX12) (N := 29) (ci := 12) (v := .ref a14) FC hKn hP i_X12 2 rfl rfl 14 (by decide) b_1132 rfl dX12_readHearer_77 ?_
                  refine lv_iload_n hx hb dX12_readHearer_80 rfl (lv_at hl 2 rfl) ?_
                  refine lv_iload_n hx hb dX12_readHearer_81 rfl (lv_at hl 0 rfl) ?_
                  refine lv_iadd hx hb dX12_readHearer_82 ?_
                  refine lv_topi (fun z796 e_z796 => ?_)
                  have t_z796 : z796.toInt = z3.toInt + x730.toInt := by rw [e_z796]; exact fb_addI (by omega) (by omega)
                  refine lv_aload_n hx hb dX12_readHearer_83 rfl (lv_at hl 3 rfl) ?_
                  refine lv_iconst (v := 0) hx hb dX12_readHearer_84 (by decide) ?_
                  refine lv_bipush (v := 20) hx hb dX12_readHearer_85 (by decide) ?_
                  have kc20 : (20 : Int32).toInt = 20 := by decide
                  refine call_V (As := [.int 0, .int 20]) (rest := [.int z796, .ref a14]) (wr := [(a14, .inl (g.2 0, 225, .inl x732))]) FC hKn hZ (k_X12_number l g h0 a1 a2 a3 a4 a6 a14 a15 a19 a20 a23 a24 a25 a26 a27 a28 mthrown mtaped msize x733 x734 x735 x736 x737 x738 mgoal mgoalDays mgoalHearer mleastOrder mwordsMany mtape ((0 : Int32)) ((20 : Int32)) (by first | assumption | omega) (by first | assumption | omega) (by first | assumption | omega) (by first | assumption | omega) (by first | assumption | omega) (by first | assumption | omega) (by first | assumption | omega) (by first | assumption | omega) (by first | assumption | omega)) m_yX12_number b_1131 (ci := 12) rfl rfl rfl hP hD hS hA [2, 1] [0] rfl (by decide) rfl (by decide) (by decide) rfl hl.1 rfl (Nat.le_of_ble_eq_true rfl) dX12_readHearer_87 ⟨(Nat.le_of_ble_eq_true rfl), (Nat.le_of_ble_eq_true rfl)⟩ ⟨(Nat.le_of_ble_eq_true rfl), (Nat.le_of_ble_eq_true rfl)⟩ (fun u797 H locs q798 hP hD hS => ?_)
                  obtain ⟨q798_0, q798_1, q798_2, q798_3, q798_4, q798_5, q798_6, q798_7, q798_8, q798_9⟩ := q798
                  have hP : va_P g.1 vwCl [(a14, .inl (g.2 0, 225, .inl x732)), (h0, .inr (12, [.int mthrown, .ref a1, .ref a2, .ref a3, .ref a4, .int mtaped, .ref a6, .int msize, .int (u797.1 1), .int (u797.1 2), .int (u797.1 3), .int (u797.1 4), .int (u797.1 5), .int (u797.1 6), .ref a14, .ref a15, .int mgoal, .int mgoalDays, .int mgoalHearer, .ref a19, .ref a20, .int mleastOrder, .int mwordsMany, .ref a23, .ref a24, .ref a25, .ref a26, .ref a27, .ref a28])), (a4, .inl (g.2 1, 900, .inl mtape))] H := hP
                  have hD : va_D A [(a14, .inl (g.2 0, 225, .inl x732)), (h0, .inr (12, [.int mthrown, .ref a1, .ref a2, .ref a3, .ref a4, .int mtaped, .ref a6, .int msize, .int (u797.1 1), .int (u797.1 2), .int (u797.1 3), .int (u797.1 4), .int (u797.1 5), .int (u797.1 6), .ref a14, .ref a15, .int mgoal, .int mgoalDays, .int mgoalHearer, .ref a19, .ref a20, .int mleastOrder, .int mwordsMany, .ref a23, .ref a24, .ref a25, .ref a26, .ref a27, .ref a28])), (a4, .inl (g.2 1, 900, .inl mtape))] := hD
                  refine W.eq (g2 := F0 m 90 ls [.int (u797.1 0), .int z796, .ref a14]) rfl ?_
                  refine va_iast hx hb hKn.1 hP hD hS 0 0 rfl rfl (vp_in_iff.mpr ⟨by omega, by omega⟩) dX12_readHearer_90 (fun H locs hP hD hS => ?_)
                  have hP : va_P g.1 vwCl [(a14, .inl (g.2 0, 225, .inl (upd x732 (z796.toNatClampNeg) (u797.1 0)))), (h0, .inr (12, [.int mthrown, .ref a1, .ref a2, .ref a3, .ref a4, .int mtaped, .ref a6, .int msize, .int (u797.1 1), .int (u797.1 2), .int (u797.1 3), .int (u797.1 4), .int (u797.1 5), .int (u797.1 6), .ref a14, .ref a15, .int mgoal, .int mgoalDays, .int mgoalHearer, .ref a19, .ref a20, .int mleastOrder, .int mwordsMany, .ref a23, .ref a24, .ref a25, .ref a26, .ref a27, .ref a28])), (a4, .inl (g.2 1, 900, .inl mtape))] H := hP
                  have hD : va_D A [(a14, .inl (g.2 0, 225, .inl (upd x732 (z796.toNatClampNeg) (u797.1 0)))), (h0, .inr (12, [.int mthrown, .ref a1, .ref a2, .ref a3, .ref a4, .int mtaped, .ref a6, .int msize, .int (u797.1 1), .int (u797.1 2), .int (u797.1 3), .int (u797.1 4), .int (u797.1 5), .int (u797.1 6), .ref a14, .ref a15, .int mgoal, .int mgoalDays, .int mgoalHearer, .ref a19, .ref a20, .int mleastOrder, .int mwordsMany, .ref a23, .ref a24, .ref a25, .ref a26, .ref a27, .ref a28])), (a4, .inl (g.2 1, 900, .inl mtape))] := hD
                  have a_f799 : wok (upd x732 (z796.toNatClampNeg) (u797.1 0)) := (wx_g h_x732 (by omega) (by omega) (by omega))
                  refine gn_f (upd x732 (z796.toNatClampNeg) (u797.1 0)) (fun f799 E_f799 => ?_)
                  rw [E_f799] at hP hD a_f799
                  have lw_f799 : (11 : Int) ≤ z796.toInt := by (try clear q5_6); (try clear q798_6); (try clear q798_7); (try clear q798_8); (try clear q798_9); (try clear hi740); omega
                  have g_f799_0 : (f799 0).toInt = (x732 0).toInt := uklo E_f799 lw_f799 (by decide)
                  have g_f799_2 : (f799 2).toInt = (x732 2).toInt := uklo E_f799 lw_f799 (by decide)
                  have g_f799_5 : (f799 5).toInt = (x732 5).toInt := uklo E_f799 lw_f799 (by decide)
                  have g_f799_6 : (f799 6).toInt = (x732 6).toInt := uklo E_f799 lw_f799 (by decide)
                  have g_f799_7 : (f799 7).toInt = (x732 7).toInt := uklo E_f799 lw_f799 (by decide)
                  have g_f799_8 : (f799 8).toInt = (x732 8).toInt := uklo E_f799 lw_f799 (by decide)
                  have g_f799_9 : (f799 9).toInt = (x732 9).toInt := uklo E_f799 lw_f799 (by decide)
                  refine lv_iload_n hx hb dX12_readHearer_91 rfl (lv_at hl 1 rfl) ?_
                  refine lv_aload_n hx hb dX12_readHearer_92 rfl (lv_at hl 3 rfl) ?_
                  refine g_get (C := RX12) (T := TX12) (N := 29) (ci := 12) (v := .ref a14) FC hKn hP i_X12 1 rfl rfl 14 (by decide) b_1132 rfl dX12_readHearer_93 ?_
                  refine lv_iload_n hx hb dX12_readHearer_96 rfl (lv_at hl 2 rfl) ?_
                  refine lv_iload_n hx hb dX12_readHearer_97 rfl (lv_at hl 0 rfl) ?_
                  refine lv_iadd hx hb dX12_readHearer_98 ?_
                  refine lv_topi (fun z800 e_z800 => ?_)
                  have t_z800 : z800.toInt = z3.toInt + x730.toInt := by rw [e_z800]; exact fb_addI (by omega) (by omega)
                  refine va_iald hx hb hKn.1 hP 0 0 rfl rfl (vp_in_iff.mpr ⟨by omega, by omega⟩) dX12_readHearer_99 ?_
                  refine lv_topi (fun z801 e_z801 => ?_)
                  have t_z801 : 0 ≤ z801.toInt ∧ z801.toInt ≤ 99 := by rw [e_z801]; exact wk_g a_f799 (by omega) (by omega)
                  have q_z801 : z801.toInt = (f799 z800.toNatClampNeg).toInt := by rw [e_z801]
                  refine lv_iadd hx hb dX12_readHearer_100 ?_
                  refine lv_topi (fun z802 e_z802 => ?_)
                  have t_z802 : z802.toInt = x731.toInt + z801.toInt := by rw [e_z802]; exact fb_addI (by omega) (by omega)
                  refine lv_istore_n (lv' := [(2, .int z802), (3, .int x730), (1, .int z3), (0, .ref h0)]) hx hb dX12_readHearer_101 rfl hl (by decide) rfl (fun ls hl => ?_)
                  obtain ⟨z803, e_z803⟩ : ∃ y : Int32, y = x730 + 1 := ⟨_, rfl⟩
                  have t_z803 : z803.toInt = x730.toInt + 1 := by rw [e_z803]; exact addk (by decide) (by omega) (by omega)
                  refine lv_iinc (v := z803) (lv' := [(3, .int z803), (2, .int z802), (1, .int z3), (0, .ref h0)]) hx hb dX12_readHearer_102 hl (k := 1) rfl (by rw [e_z803]; rfl) (by decide) rfl (fun ls hl => ?_)
                  refine lv_goto (tgt := 23) hx hb dX12_readHearer_105 (by decide) ?_
                  exact ih745 z803 z802 f799 (u797.1 1) (u797.1 2) (u797.1 3) (u797.1 4) (u797.1 5) (u797.1 6) _ _ ls (by first | assumption | omega) a_f799 (by first | assumption | omega) (by first | assumption | omega) (by first | assumption | omega) (by first | assumption | omega) (by first | assumption | omega) (Int.le_trans (hi739) q798_5) (fun h9 => (hi740 (q798_6 h9))) (g_f799_0.trans hi741) (g_f799_2.trans hi742) (g_f799_5.trans hi743) (by omega) hP hD hS (lv_sub hl [0, 1, 2, 3] rfl)
                · have c795 := k_eq (a := x736.toInt) (b := 0) rfl (by decide) c795
                  refine lv_aload_n hx hb dX12_readHearer_71 rfl (lv_at hl 3 rfl) ?_
                  refine lv_iconst (v := 2) hx hb dX12_readHearer_72 (by decide) ?_
                  have kc2 : (2 : Int32).toInt = 2 := by decide
                  refine call_V (As := [.int 2]) (rest := []) (wr := [(a14, .inl (g.2 0, 225, .inl x732)), (a4, .inl (g.2 1, 900, .inl mtape))]) FC hKn hZ (k_X12_errs l g h0 a1 a2 a3 a4 a6 a14 a15 a19 a20 a23 a24 a25 a26 a27 a28 mthrown mtaped msize x733 x734 x735 x736 x737 x738 mgoal mgoalDays mgoalHearer mleastOrder mwordsMany ((2 : Int32)) (by first | assumption | omega) (by first | assumption | omega) (by first | assumption | omega) (by first | assumption | omega) (by first | assumption | omega) (by first | assumption | omega) (by first | assumption | omega) (by first | assumption | omega) (by first | assumption | omega) (by first | assumption | omega)) m_yX12_errs b_1129 (ci := 12) rfl rfl rfl hP hD hS hA [2] [0, 1] rfl (by decide) rfl (by decide) (by decide) rfl hl.1 rfl (Nat.le_of_ble_eq_true rfl) dX12_readHearer_73 ⟨(Nat.le_of_ble_eq_true rfl), (Nat.le_of_ble_eq_true rfl)⟩ ⟨(Nat.le_of_ble_eq_true rfl), (Nat.le_of_ble_eq_true rfl)⟩ (fun u804 H locs q805 hP hD hS => ?_)
                  have q805_0 : 1 ≤ (u804.1 1).toInt ∧ (u804.1 1).toInt ≤ 3 := q805
                  have hP : va_P g.1 vwCl [(a14, .inl (g.2 0, 225, .inl x732)), (a4, .inl (g.2 1, 900, .inl mtape)), (h0, .inr (12, [.int mthrown, .ref a1, .ref a2, .ref a3, .ref a4, .int mtaped, .ref a6, .int msize, .int x733, .int x734, .int x735, .int x736, .int (u804.1 1), .int (u804.1 2), .ref a14, .ref a15, .int mgoal, .int mgoalDays, .int mgoalHearer, .ref a19, .ref a20, .int mleastOrder, .int mwordsMany, .ref a23, .ref a24, .ref a25, .ref a26, .ref a27, .ref a28]))] H := hP
                  have hD : va_D A [(a14, .inl (g.2 0, 225, .inl x732)), (a4, .inl (g.2 1, 900, .inl mtape)), (h0, .inr (12, [.int mthrown, .ref a1, .ref a2, .ref a3, .ref a4, .int mtaped, .ref a6, .int msize, .int x733, .int x734, .int x735, .int x736, .int (u804.1 1), .int (u804.1 2), .ref a14, .ref a15, .int mgoal, .int mgoalDays, .int mgoalHearer, .ref a19, .ref a20, .int mleastOrder, .int mwordsMany, .ref a23, .ref a24, .ref a25, .ref a26, .ref a27, .ref a28]))] := hD
                  refine W.eq (g2 := F0 m 76 ls []) rfl ?_
                  refine lv_aload_n hx hb dX12_readHearer_76 rfl (lv_at hl 3 rfl) ?_
                  refine g_get (C := RX12) (T := TX12) (N := 29) (ci := 12) (v := .ref a14) FC hKn hP i_X12 2 rfl rfl 14 (by decide) b_1132 rfl dX12_readHearer_77 ?_
                  refine lv_iload_n hx hb dX12_readHearer_80 rfl (lv_at hl 2 rfl) ?_
                  refine lv_iload_n hx hb dX12_readHearer_81 rfl (lv_at hl 0 rfl) ?_
                  refine lv_iadd hx hb dX12_readHearer_82 ?_
                  refine lv_topi (fun z806 e_z806 => ?_)
                  have t_z806 : z806.toInt = z3.toInt + x730.toInt := by rw [e_z806]; exact fb_addI (by omega) (by omega)
                  refine lv_aload_n hx hb dX12_readHearer_83 rfl (lv_at hl 3 rfl) ?_
                  refine lv_iconst (v := 0) hx hb dX12_readHearer_84 (by decide) ?_
                  refine lv_bipush (v := 20) hx hb dX12_readHearer_85 (by decide) ?_
                  have kc20 : (20 : Int32).toInt = 20 := by decide
                  refine call_V (As := [.int 0, .int 20]) (rest := [.int z806, .ref a14]) (wr := [(a14, .inl (g.2 0, 225, .inl x732))]) FC hKn hZ (k_X12_number l g h0 a1 a2 a3 a4 a6 a14 a15 a19 a20 a23 a24 a25 a26 a27 a28 mthrown mtaped msize x733 x734 x735 x736 (u804.1 1) (u804.1 2) mgoal mgoalDays mgoalHearer mleastOrder mwordsMany mtape ((0 : Int32)) ((20 : Int32)) (by first | assumption | omega) (by first | assumption | omega) (by first | assumption | omega) (by first | assumption | omega) (by first | assumption | omega) (by first | assumption | omega) (by first | assumption | omega) (by first | assumption | omega) (by first | assumption | omega)) m_yX12_number b_1131 (ci := 12) rfl rfl rfl hP hD hS hA [2, 1] [0] rfl (by decide) rfl (by decide) (by decide) rfl hl.1 rfl (Nat.le_of_ble_eq_true rfl) dX12_readHearer_87 ⟨(Nat.le_of_ble_eq_true rfl), (Nat.le_of_ble_eq_true rfl)⟩ ⟨(Nat.le_of_ble_eq_true rfl), (Nat.le_of_ble_eq_true rfl)⟩ (fun u807 H locs q808 hP hD hS => ?_)
                  obtain ⟨q808_0, q808_1, q808_2, q808_3, q808_4, q808_5, q808_6, q808_7, q808_8, q808_9⟩ := q808
                  have hP : va_P g.1 vwCl [(a14, .inl (g.2 0, 225, .inl x732)), (h0, .inr (12, [.int mthrown, .ref a1, .ref a2, .ref a3, .ref a4, .int mtaped, .ref a6, .int msize, .int (u807.1 1), .int (u807.1 2), .int (u807.1 3), .int (u807.1 4), .int (u807.1 5), .int (u807.1 6), .ref a14, .ref a15, .int mgoal, .int mgoalDays, .int mgoalHearer, .ref a19, .ref a20, .int mleastOrder, .int mwordsMany, .ref a23, .ref a24, .ref a25, .ref a26, .ref a27, .ref a28])), (a4, .inl (g.2 1, 900, .inl mtape))] H := hP
                  have hD : va_D A [(a14, .inl (g.2 0, 225, .inl x732)), (h0, .inr (12, [.int mthrown, .ref a1, .ref a2, .ref a3, .ref a4, .int mtaped, .ref a6, .int msize, .int (u807.1 1), .int (u807.1 2), .int (u807.1 3), .int (u807.1 4), .int (u807.1 5), .int (u807.1 6), .ref a14, .ref a15, .int mgoal, .int mgoalDays, .int mgoalHearer, .ref a19, .ref a20, .int mleastOrder, .int mwordsMany, .ref a23, .ref a24, .ref a25, .ref a26, .ref a27, .ref a28])), (a4, .inl (g.2 1, 900, .inl mtape))] := hD
                  refine W.eq (g2 := F0 m 90 ls [.int (u807.1 0), .int z806, .ref a14]) rfl ?_
                  refine va_iast hx hb hKn.1 hP hD hS 0 0 rfl rfl (vp_in_iff.mpr ⟨by omega, by omega⟩) dX12_readHearer_90 (fun H locs hP hD hS => ?_)
                  have hP : va_P g.1 vwCl [(a14, .inl (g.2 0, 225, .inl (upd x732 (z806.toNatClampNeg) (u807.1 0)))), (h0, .inr (12, [.int mthrown, .ref a1, .ref a2, .ref a3, .ref a4, .int mtaped, .ref a6, .int msize, .int (u807.1 1), .int (u807.1 2), .int (u807.1 3), .int (u807.1 4), .int (u807.1 5), .int (u807.1 6), .ref a14, .ref a15, .int mgoal, .int mgoalDays, .int mgoalHearer, .ref a19, .ref a20, .int mleastOrder, .int mwordsMany, .ref a23, .ref a24, .ref a25, .ref a26, .ref a27, .ref a28])), (a4, .inl (g.2 1, 900, .inl mtape))] H := hP
                  have hD : va_D A [(a14, .inl (g.2 0, 225, .inl (upd x732 (z806.toNatClampNeg) (u807.1 0)))), (h0, .inr (12, [.int mthrown, .ref a1, .ref a2, .ref a3, .ref a4, .int mtaped, .ref a6, .int msize, .int (u807.1 1), .int (u807.1 2), .int (u807.1 3), .int (u807.1 4), .int (u807.1 5), .int (u807.1 6), .ref a14, .ref a15, .int mgoal, .int mgoalDays, .int mgoalHearer, .ref a19, .ref a20, .int mleastOrder, .int mwordsMany, .ref a23, .ref a24, .ref a25, .ref a26, .ref a27, .ref a28])), (a4, .inl (g.2 1, 900, .inl mtape))] := hD
                  have a_f809 : wok (upd x732 (z806.toNatClampNeg) (u807.1 0)) := (wx_g h_x732 (by omega) (by omega) (by omega))
                  refine gn_f (upd x732 (z806.toNatClampNeg) (u807.1 0)) (fun f809 E_f809 => ?_)
                  rw [E_f809] at hP hD a_f809
                  have lw_f809 : (11 : Int) ≤ z806.toInt := by (try clear q5_6); (try clear q808_6); (try clear q808_7); (try clear q808_8); (try clear q808_9); (try clear hi740); omega
                  have g_f809_0 : (f809 0).toInt = (x732 0).toInt := uklo E_f809 lw_f809 (by decide)
                  have g_f809_2 : (f809 2).toInt = (x732 2).toInt := uklo E_f809 lw_f809 (by decide)
                  have g_f809_5 : (f809 5).toInt = (x732 5).toInt := uklo E_f809 lw_f809 (by decide)
                  have g_f809_6 : (f809 6).toInt = (x732 6).toInt := uklo E_f809 lw_f809 (by decide)
                  have g_f809_7 : (f809 7).toInt = (x732 7).toInt := uklo E_f809 lw_f809 (by decide)
                  have g_f809_8 : (f809 8).toInt = (x732 8).toInt := uklo E_f809 lw_f809 (by decide)
                  have g_f809_9 : (f809 9).toInt = (x732 9).toInt := uklo E_f809 lw_f809 (by decide)
                  refine lv_iload_n hx hb dX12_readHearer_91 rfl (lv_at hl 1 rfl) ?_
                  refine lv_aload_n hx hb dX12_readHearer_92 rfl (lv_at hl 3 rfl) ?_
                  refine g_get (C := RX12) (T := TX12) (N := 29) (ci := 12) (v := .ref a14) FC hKn hP i_X12 1 rfl rfl 14 (by decide) b_1132 rfl dX12_readHearer_93 ?_
                  refine lv_iload_n hx hb dX12_readHearer_96 rfl (lv_at hl 2 rfl) ?_
                  refine lv_iload_n hx hb dX12_readHearer_97 rfl (lv_at hl 0 rfl) ?_
                  refine lv_iadd hx hb dX12_readHearer_98 ?_
                  refine lv_topi (fun z810 e_z810 => ?_)
                  have t_z810 : z810.toInt = z3.toInt + x730.toInt := by rw [e_z810]; exact fb_addI (by omega) (by omega)
                  refine va_iald hx hb hKn.1 hP 0 0 rfl rfl (vp_in_iff.mpr ⟨by omega, by omega⟩) dX12_readHearer_99 ?_
                  refine lv_topi (fun z811 e_z811 => ?_)
                  have t_z811 : 0 ≤ z811.toInt ∧ z811.toInt ≤ 99 := by rw [e_z811]; exact wk_g a_f809 (by omega) (by omega)
                  have q_z811 : z811.toInt = (f809 z810.toNatClampNeg).toInt := by rw [e_z811]
                  refine lv_iadd hx hb dX12_readHearer_100 ?_
                  refine lv_topi (fun z812 e_z812 => ?_)
                  have t_z812 : z812.toInt = x731.toInt + z811.toInt := by rw [e_z812]; exact fb_addI (by omega) (by omega)
                  refine lv_istore_n (lv' := [(2, .int z812), (3, .int x730), (1, .int z3), (0, .ref h0)]) hx hb dX12_readHearer_101 rfl hl (by decide) rfl (fun ls hl => ?_)
                  obtain ⟨z813, e_z813⟩ : ∃ y : Int32, y = x730 + 1 := ⟨_, rfl⟩
                  have t_z813 : z813.toInt = x730.toInt + 1 := by rw [e_z813]; exact addk (by decide) (by omega) (by omega)
                  refine lv_iinc (v := z813) (lv' := [(3, .int z813), (2, .int z812), (1, .int z3), (0, .ref h0)]) hx hb dX12_readHearer_102 hl (k := 1) rfl (by rw [e_z813]; rfl) (by decide) rfl (fun ls hl => ?_)
                  refine lv_goto (tgt := 23) hx hb dX12_readHearer_105 (by decide) ?_
                  exact ih745 z813 z812 f809 (u807.1 1) (u807.1 2) (u807.1 3) (u807.1 4) (u807.1 5) (u807.1 6) _ _ ls (by first | assumption | omega) a_f809 (by first | assumption | omega) (by first | assumption | omega) (by first | assumption | omega) (by first | assumption | omega) (by first | assumption | omega) (Int.le_trans (hi739) q808_5) (fun h9 => (absurd (q808_6 h9) (by omega))) (g_f809_0.trans hi741) (g_f809_2.trans hi742) (g_f809_5.trans hi743) (by omega) hP hD hS (lv_sub hl [0, 1, 2, 3] rfl)
            · skip
              refine tp_i (v := 0) (Int32.toInt_inj.mp (show (u783.1 0).toInt = (0 : Int32).toInt by rw [show (0 : Int32).toInt = 0 by decide]; omega)) ?_
              refine lv_if_eq (tgt := 76) hx hb dX12_readHearer_53 (by decide) (fun _ => ?_) (fun h => absurd h (by decide))
              refine lv_aload_n hx hb dX12_readHearer_76 rfl (lv_at hl 3 rfl) ?_
              refine g_get (C := RX12) (T := TX12) (N := 29) (ci := 12) (v := .ref a14) FC hKn hP i_X12 2 rfl rfl 14 (by decide) b_1132 rfl dX12_readHearer_77 ?_
              refine lv_iload_n hx hb dX12_readHearer_80 rfl (lv_at hl 2 rfl) ?_
              refine lv_iload_n hx hb dX12_readHearer_81 rfl (lv_at hl 0 rfl) ?_
              refine lv_iadd hx hb dX12_readHearer_82 ?_
              refine lv_topi (fun z814 e_z814 => ?_)
              have t_z814 : z814.toInt = z3.toInt + x730.toInt := by rw [e_z814]; exact fb_addI (by omega) (by omega)
              refine lv_aload_n hx hb dX12_readHearer_83 rfl (lv_at hl 3 rfl) ?_
              refine lv_iconst (v := 0) hx hb dX12_readHearer_84 (by decide) ?_
              refine lv_bipush (v := 20) hx hb dX12_readHearer_85 (by decide) ?_
              have kc20 : (20 : Int32).toInt = 20 := by decide
              refine call_V (As := [.int 0, .int 20]) (rest := [.int z814, .ref a14]) (wr := [(a14, .inl (g.2 0, 225, .inl x732))]) FC hKn hZ (k_X12_number l g h0 a1 a2 a3 a4 a6 a14 a15 a19 a20 a23 a24 a25 a26 a27 a28 mthrown mtaped msize x733 x734 x735 x736 x737 x738 mgoal mgoalDays mgoalHearer mleastOrder mwordsMany mtape ((0 : Int32)) ((20 : Int32)) (by first | assumption | omega) (by first | assumption | omega) (by first | assumption | omega) (by first | assumption | omega) (by first | assumption | omega) (by first | assumption | omega) (by first | assumption | omega) (by first | assumption | omega) (by first | assumption | omega)) m_yX12_number b_1131 (ci := 12) rfl rfl rfl hP hD hS hA [2, 1] [0] rfl (by decide) rfl (by decide) (by decide) rfl hl.1 rfl (Nat.le_of_ble_eq_true rfl) dX12_readHearer_87 ⟨(Nat.le_of_ble_eq_true rfl), (Nat.le_of_ble_eq_true rfl)⟩ ⟨(Nat.le_of_ble_eq_true rfl), (Nat.le_of_ble_eq_true rfl)⟩ (fun u815 H locs q816 hP hD hS => ?_)
              obtain ⟨q816_0, q816_1, q816_2, q816_3, q816_4, q816_5, q816_6, q816_7, q816_8, q816_9⟩ := q816
              have hP : va_P g.1 vwCl [(a14, .inl (g.2 0, 225, .inl x732)), (h0, .inr (12, [.int mthrown, .ref a1, .ref a2, .ref a3, .ref a4, .int mtaped, .ref a6, .int msize, .int (u815.1 1), .int (u815.1 2), .int (u815.1 3), .int (u815.1 4), .int (u815.1 5), .int (u815.1 6), .ref a14, .ref a15, .int mgoal, .int mgoalDays, .int mgoalHearer, .ref a19, .ref a20, .int mleastOrder, .int mwordsMany, .ref a23, .ref a24, .ref a25, .ref a26, .ref a27, .ref a28])), (a4, .inl (g.2 1, 900, .inl mtape))] H := hP
              have hD : va_D A [(a14, .inl (g.2 0, 225, .inl x732)), (h0, .inr (12, [.int mthrown, .ref a1, .ref a2, .ref a3, .ref a4, .int mtaped, .ref a6, .int msize, .int (u815.1 1), .int (u815.1 2), .int (u815.1 3), .int (u815.1 4), .int (u815.1 5), .int (u815.1 6), .ref a14, .ref a15, .int mgoal, .int mgoalDays, .int mgoalHearer, .ref a19, .ref a20, .int mleastOrder, .int mwordsMany, .ref a23, .ref a24, .ref a25, .ref a26, .ref a27, .ref a28])), (a4, .inl (g.2 1, 900, .inl mtape))] := hD
              refine W.eq (g2 := F0 m 90 ls [.int (u815.1 0), .int z814, .ref a14]) rfl ?_
              refine va_iast hx hb hKn.1 hP hD hS 0 0 rfl rfl (vp_in_iff.mpr ⟨by omega, by omega⟩) dX12_readHearer_90 (fun H locs hP hD hS => ?_)
              have hP : va_P g.1 vwCl [(a14, .inl (g.2 0, 225, .inl (upd x732 (z814.toNatClampNeg) (u815.1 0)))), (h0, .inr (12, [.int mthrown, .ref a1, .ref a2, .ref a3, .ref a4, .int mtaped, .ref a6, .int msize, .int (u815.1 1), .int (u815.1 2), .int (u815.1 3), .int (u815.1 4), .int (u815.1 5), .int (u815.1 6), .ref a14, .ref a15, .int mgoal, .int mgoalDays, .int mgoalHearer, .ref a19, .ref a20, .int mleastOrder, .int mwordsMany, .ref a23, .ref a24, .ref a25, .ref a26, .ref a27, .ref a28])), (a4, .inl (g.2 1, 900, .inl mtape))] H := hP
              have hD : va_D A [(a14, .inl (g.2 0, 225, .inl (upd x732 (z814.toNatClampNeg) (u815.1 0)))), (h0, .inr (12, [.int mthrown, .ref a1, .ref a2, .ref a3, .ref a4, .int mtaped, .ref a6, .int msize, .int (u815.1 1), .int (u815.1 2), .int (u815.1 3), .int (u815.1 4), .int (u815.1 5), .int (u815.1 6), .ref a14, .ref a15, .int mgoal, .int mgoalDays, .int mgoalHearer, .ref a19, .ref a20, .int mleastOrder, .int mwordsMany, .ref a23, .ref a24, .ref a25, .ref a26, .ref a27, .ref a28])), (a4, .inl (g.2 1, 900, .inl mtape))] := hD
              have a_f817 : wok (upd x732 (z814.toNatClampNeg) (u815.1 0)) := (wx_g h_x732 (by omega) (by omega) (by omega))
              refine gn_f (upd x732 (z814.toNatClampNeg) (u815.1 0)) (fun f817 E_f817 => ?_)
              rw [E_f817] at hP hD a_f817
              have lw_f817 : (11 : Int) ≤ z814.toInt := by (try clear q5_6); (try clear q816_6); (try clear q816_7); (try clear q816_8); (try clear q816_9); (try clear hi740); omega
              have g_f817_0 : (f817 0).toInt = (x732 0).toInt := uklo E_f817 lw_f817 (by decide)
              have g_f817_2 : (f817 2).toInt = (x732 2).toInt := uklo E_f817 lw_f817 (by decide)
              have g_f817_5 : (f817 5).toInt = (x732 5).toInt := uklo E_f817 lw_f817 (by decide)
              have g_f817_6 : (f817 6).toInt = (x732 6).toInt := uklo E_f817 lw_f817 (by decide)
              have g_f817_7 : (f817 7).toInt = (x732 7).toInt := uklo E_f817 lw_f817 (by decide)
              have g_f817_8 : (f817 8).toInt = (x732 8).toInt := uklo E_f817 lw_f817 (by decide)
              have g_f817_9 : (f817 9).toInt = (x732 9).toInt := uklo E_f817 lw_f817 (by decide)
              refine lv_iload_n hx hb dX12_readHearer_91 rfl (lv_at hl 1 rfl) ?_
              refine lv_aload_n hx hb dX12_readHearer_92 rfl (lv_at hl 3 rfl) ?_
              refine g_get (C := RX12) (T := TX12) (N := 29) (ci := 12) (v := .ref a14) FC hKn hP i_X12 1 rfl rfl 14 (by decide) b_1132 rfl dX12_readHearer_93 ?_
              refine lv_iload_n hx hb dX12_readHearer_96 rfl (lv_at hl 2 rfl) ?_
              refine lv_iload_n hx hb dX12_readHearer_97 rfl (lv_at hl 0 rfl) ?_
              refine lv_iadd hx hb dX12_readHearer_98 ?_
              refine lv_topi (fun z818 e_z818 => ?_)
              have t_z818 : z818.toInt = z3.toInt + x730.toInt := by rw [e_z818]; exact fb_addI (by omega) (by omega)
              refine va_iald hx hb hKn.1 hP 0 0 rfl rfl (vp_in_iff.mpr ⟨by omega, by omega⟩) dX12_readHearer_99 ?_
              refine lv_topi (fun z819 e_z819 => ?_)
              have t_z819 : 0 ≤ z819.toInt ∧ z819.toInt ≤ 99 := by rw [e_z819]; exact wk_g a_f817 (by omega) (by omega)
              have q_z819 : z819.toInt = (f817 z818.toNatClampNeg).toInt := by rw [e_z819]
              refine lv_iadd hx hb dX12_readHearer_100 ?_
              refine lv_topi (fun z820 e_z820 => ?_)
              have t_z820 : z820.toInt = x731.toInt + z819.toInt := by rw [e_z820]; exact fb_addI (by omega) (by omega)
              refine lv_istore_n (lv' := [(2, .int z820), (3, .int x730), (1, .int z3), (0, .ref h0)]) hx hb dX12_readHearer_101 rfl hl (by decide) rfl (fun ls hl => ?_)
              obtain ⟨z821, e_z821⟩ : ∃ y : Int32, y = x730 + 1 := ⟨_, rfl⟩
              have t_z821 : z821.toInt = x730.toInt + 1 := by rw [e_z821]; exact addk (by decide) (by omega) (by omega)
              refine lv_iinc (v := z821) (lv' := [(3, .int z821), (2, .int z820), (1, .int z3), (0, .ref h0)]) hx hb dX12_readHearer_102 hl (k := 1) rfl (by rw [e_z821]; rfl) (by decide) rfl (fun ls hl => ?_)
              refine lv_goto (tgt := 23) hx hb dX12_readHearer_105 (by decide) ?_
              exact ih745 z821 z820 f817 (u815.1 1) (u815.1 2) (u815.1 3) (u815.1 4) (u815.1 5) (u815.1 6) _ _ ls (by first | assumption | omega) a_f817 (by first | assumption | omega) (by first | assumption | omega) (by first | assumption | omega) (by first | assumption | omega) (by first | assumption | omega) (Int.le_trans (hi739) q816_5) (fun h9 => (hi740 (q816_6 h9))) (g_f817_0.trans hi741) (g_f817_2.trans hi742) (g_f817_5.trans hi743) (by omega) hP hD hS (lv_sub hl [0, 1, 2, 3] rfl)
  have kc0 : (0 : Int32).toInt = 0 := by decide
  exact lp744 _ (0 : Int32) (0 : Int32) mfresh (u4.1 1) (u4.1 2) (u4.1 3) (u4.1 4) (u4.1 5) (u4.1 6) _ _ ls (by decide) i_mfresh (by first | assumption | omega) (by first | assumption | omega) (by first | assumption | omega) (by first | assumption | omega) (by first | assumption | omega) (q5_5) (fun h9 => (q5_6 h9)) rfl rfl rfl (Nat.lt_succ_self _) hP hD hS (lv_sub hl [0, 1, 2, 3] rfl)
