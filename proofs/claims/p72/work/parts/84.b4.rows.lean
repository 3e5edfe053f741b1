set_option maxRecDepth 100000 in
set_option maxHeartbeats 4000000 in
theorem k_X12_readNews (l : Launch) (g : GG) (h0 : Nat) (a1 : Nat) (a2 : Nat) (a3 : Nat) (a4 : Nat) (a6 : Nat) (a14 : Nat) (a15 : Nat) (a19 : Nat) (a20 : Nat) (a23 : Nat) (a24 : Nat) (a25 : Nat) (a26 : Nat) (a27 : Nat) (a28 : Nat) (mthrown : Int32) (mtaped : Int32) (msize : Int32) (mat : Int32) (mfrom : Int32) (mtoken : Int32) (mvalue : Int32) (mfaultKind : Int32) (mfaultPlace : Int32) (mgoal : Int32) (mgoalDays : Int32) (mgoalHearer : Int32) (mleastOrder : Int32) (mwordsMany : Int32) (mtape : Nat → Int32) (mfresh : Nat → Int32) (i_mtaped : 0 ≤ mtaped.toInt ∧ mtaped.toInt ≤ 900) (i_msize : 0 ≤ msize.toInt ∧ msize.toInt ≤ 900) (i_mat : 0 ≤ mat.toInt ∧ mat.toInt ≤ 900) (i_mfrom : 0 ≤ mfrom.toInt ∧ mfrom.toInt ≤ 900) (i_mtoken : 0 ≤ mtoken.toInt ∧ mtoken.toInt ≤ 4) (i_mvalue : 0 ≤ mvalue.toInt ∧ mvalue.toInt ≤ 99999) (i_mfaultKind : 0 ≤ mfaultKind.toInt ∧ mfaultKind.toInt ≤ 3) (i_mgoalHearer : 0 ≤ mgoalHearer.toInt ∧ mgoalHearer.toInt ≤ 3) (i_mwordsMany : 0 ≤ mwordsMany.toInt ∧ mwordsMany.toInt ≤ 10) (i_mfresh : wok mfresh) (h8 : (mfresh 8).toInt ≤ 5) : Ct l g yX12_readNews cX12_readNews 3 none { frames := 7, cells := 0, slots := 0, locals := 151 } [.ref h0] [(h0, .inr (12, [.int mthrown, .ref a1, .ref a2, .ref a3, .ref a4, .int mtaped, .ref a6, .int msize, .int mat, .int mfrom, .int mtoken, .int mvalue, .int mfaultKind, .int mfaultPlace, .ref a14, .ref a15, .int mgoal, .int mgoalDays, .int mgoalHearer, .ref a19, .ref a20, .int mleastOrder, .int mwordsMany, .ref a23, .ref a24, .ref a25, .ref a26, .ref a27, .ref a28])), (a4, .inl (g.2 1, 900, .inl mtape)), (a14, .inl (g.2 0, 225, .inl mfresh))] (S := (Nat → Int32) × (Nat → Nat → Int32) × (Nat → Nat → Int64)) (fun _ => none) (fun u => (0 ≤ (u.1 1).toInt ∧ (u.1 1).toInt ≤ 900) ∧ (0 ≤ (u.1 2).toInt ∧ (u.1 2).toInt ≤ 900) ∧ (0 ≤ (u.1 3).toInt ∧ (u.1 3).toInt ≤ 4) ∧ (0 ≤ (u.1 4).toInt ∧ (u.1 4).toInt ≤ 99999) ∧ (0 ≤ (u.1 5).toInt ∧ (u.1 5).toInt ≤ 3) ∧ (wok (u.2.1 0)) ∧ (5 * mat.toInt - mtoken.toInt ≤ 5 * (u.1 1).toInt - (u.1 3).toInt) ∧ ((u.1 5).toInt = 0 → mfaultKind.toInt = 0) ∧ (((u.2.1 0) 0).toInt = (mfresh 0).toInt ∧ ((u.2.1 0) 2).toInt = (mfresh 2).toInt)) (fun u => [(h0, .inr (12, [.int mthrown, .ref a1, .ref a2, .ref a3, .ref a4, .int mtaped, .ref a6, .int msize, .int (u.1 1), .int (u.1 2), .int (u.1 3), .int (u.1 4), .int (u.1 5), .int (u.1 6), .ref a14, .ref a15, .int mgoal, .int mgoalDays, .int mgoalHearer, .ref a19, .ref a20, .int mleastOrder, .int mwordsMany, .ref a23, .ref a24, .ref a25, .ref a26, .ref a27, .ref a28])), (a4, .inl (g.2 1, 900, .inl mtape)), (a14, .inl (g.2 0, 225, .inl (u.2.1 0)))]) := by
  refine Ct.of (by decide) (Nat.le_of_ble_eq_true rfl) ?_
  intro p e s m below meth c A ls FX hP hD hS hl
  obtain ⟨FC, hr, hlk, hKn, hA, hnm, hZ⟩ := id FX
  have FC : CallFix p m c cX12_readNews 3 s _ BIG RX12 := FC
  obtain ⟨hx, hb, hml, hown, hB⟩ := id FC
  have hl : lv_has ls 3 [(0, .ref h0)] := hl
  refine lv_aload_n hx hb dX12_readNews_0 rfl (lv_at hl 0 rfl) ?_
  refine va_ldcS hx hb hown (hZ.2.2 34 _ rfl).1 dX12_readNews_1 ?_
  refine call_V (As := [.ref (sa g 34)]) (rest := []) (wr := [(a14, .inl (g.2 0, 225, .inl mfresh))]) FC hKn hZ (k_X12_takes l g 34 h0 a1 a2 a3 a4 a6 a14 a15 a19 a20 a23 a24 a25 a26 a27 a28 mthrown mtaped msize mat mfrom mtoken mvalue mfaultKind mfaultPlace mgoal mgoalDays mgoalHearer mleastOrder mwordsMany mtape (by first | assumption | omega) (by first | assumption | omega) (by first | assumption | omega) (by first | assumption | omega) (by first | assumption | omega) (by first | assumption | omega) (by first | assumption | omega) (by first | assumption | omega) (by first | assumption | omega) (by first | assumption | omega)) m_yX12_takes b_1128 (ci := 12) rfl rfl rfl hP hD hS hA [0, 1] [2] rfl (by decide) rfl (by decide) (by decide) rfl hl.1 rfl (Nat.le_of_ble_eq_true rfl) dX12_readNews_3 ⟨(Nat.le_of_ble_eq_true rfl), (Nat.le_of_ble_eq_true rfl)⟩ ⟨(Nat.le_of_ble_eq_true rfl), (Nat.le_of_ble_eq_true rfl)⟩ (fun u1 H locs q2 hP hD hS => ?_)
  obtain ⟨q2_0, q2_1, q2_2, q2_3, q2_4, q2_5, q2_6, q2_7, q2_8⟩ := q2
  have hP : va_P g.1 vwCl [(a14, .inl (g.2 0, 225, .inl mfresh)), (h0, .inr (12, [.int mthrown, .ref a1, .ref a2, .ref a3, .ref a4, .int mtaped, .ref a6, .int msize, .int (u1.1 1), .int (u1.1 2), .int (u1.1 3), .int (u1.1 4), .int mfaultKind, .int mfaultPlace, .ref a14, .ref a15, .int mgoal, .int mgoalDays, .int mgoalHearer, .ref a19, .ref a20, .int mleastOrder, .int mwordsMany, .ref a23, .ref a24, .ref a25, .ref a26, .ref a27, .ref a28])), (a4, .inl (g.2 1, 900, .inl mtape))] H := hP
  have hD : va_D A [(a14, .inl (g.2 0, 225, .inl mfresh)), (h0, .inr (12, [.int mthrown, .ref a1, .ref a2, .ref a3, .ref a4, .int mtaped, .ref a6, .int msize, .int (u1.1 1), .int (u1.1 2), .int (u1.1 3), .int (u1.1 4), .int mfaultKind, .int mfaultPlace, .ref a14, .ref a15, .int mgoal, .int mgoalDays, .int mgoalHearer, .ref a19, .ref a20, .int mleastOrder, .int mwordsMany, .ref a23, .ref a24, .ref a25, .ref a26, .ref a27, .ref a28])), (a4, .inl (g.2 1, 900, .inl mtape))] := hD
  refine W.eq (g2 := F0 m 6 ls [.int (u1.1 0)]) rfl ?_
  rw [q2_5] at q2_0
  rw [q2_5] at q2_6
  rw [q2_5] at q2_8
  refine tp_i (v := isF mfaultKind mtoken mat mfrom mtape 34) q2_5 ?_
  rcases (show (isF mfaultKind mtoken mat mfrom mtape 34).toInt = 0 ∨ (isF mfaultKind mtoken mat mfrom mtape 34).toInt = 1 by omega) with c3 | c3
  · obtain ⟨w1, w2, w3, w4⟩ := q2_6 c3
    rw [w1, w2, w3, w4] at hP hD
    have hP : va_P g.1 vwCl [(a14, .inl (g.2 0, 225, .inl mfresh)), (h0, .inr (12, [.int mthrown, .ref a1, .ref a2, .ref a3, .ref a4, .int mtaped, .ref a6, .int msize, .int mat, .int mfrom, .int mtoken, .int mvalue, .int mfaultKind, .int mfaultPlace, .ref a14, .ref a15, .int mgoal, .int mgoalDays, .int mgoalHearer, .ref a19, .ref a20, .int mleastOrder, .int mwordsMany, .ref a23, .ref a24, .ref a25, .ref a26, .ref a27, .ref a28])), (a4, .inl (g.2 1, 900, .inl mtape))] H := hP
    have hD : va_D A [(a14, .inl (g.2 0, 225, .inl mfresh)), (h0, .inr (12, [.int mthrown, .ref a1, .ref a2, .ref a3, .ref a4, .int mtaped, .ref a6, .int msize, .int mat, .int mfrom, .int mtoken, .int mvalue, .int mfaultKind, .int mfaultPlace, .ref a14, .ref a15, .int mgoal, .int mgoalDays, .int mgoalHearer, .ref a19, .ref a20, .int mleastOrder, .int mwordsMany, .ref a23, .ref a24, .ref a25, .ref a26, .ref a27, .ref a28])), (a4, .inl (g.2 1, 900, .inl mtape))] := hD
    refine lv_istore_n (lv' := [(1, .int (isF mfaultKind mtoken mat mfrom mtape 34)), (0, .ref h0)]) hx hb dX12_readNews_6 rfl hl (by decide) rfl (fun ls hl => ?_)
    refine lv_iload_n hx hb dX12_readNews_7 rfl (lv_at hl 0 rfl) ?_
    refine lv_if_ne (tgt := 17) hx hb dX12_readNews_8 (by decide) (fun c4 => ?_) (fun c4 => ?_)
    · have c4 := k_ne (a := (isF mfaultKind mtoken mat mfrom mtape 34).toInt) (b := 0) rfl (by decide) c4
      exfalso; omega
    · have c4 := k_eq (a := (isF mfaultKind mtoken mat mfrom mtape 34).toInt) (b := 0) rfl (by decide) c4
      refine lv_aload_n hx hb dX12_readNews_11 rfl (lv_at hl 1 rfl) ?_
      refine va_ldcS hx hb hown (hZ.2.2 35 _ rfl).1 dX12_readNews_12 ?_
      refine call_V (As := [.ref (sa g 35)]) (rest := []) (wr := [(a14, .inl (g.2 0, 225, .inl mfresh))]) FC hKn hZ (k_X12_needs l g 35 h0 a1 a2 a3 a4 a6 a14 a15 a19 a20 a23 a24 a25 a26 a27 a28 mthrown mtaped msize mat mfrom mtoken mvalue mfaultKind mfaultPlace mgoal mgoalDays mgoalHearer mleastOrder mwordsMany mtape (by first | assumption | omega) (by first | assumption | omega) (by first | assumption | omega) (by first | assumption | omega) (by first | assumption | omega) (by first | assumption | omega) (by first | assumption | omega) (by first | assumption | omega) (by first | assumption | omega) (by first | assumption | omega)) m_yX12_needs b_1130 (ci := 12) rfl rfl rfl hP hD hS hA [1, 2] [0] rfl (by decide) rfl (by decide) (by decide) rfl hl.1 rfl (Nat.le_of_ble_eq_true rfl) dX12_readNews_14 ⟨(Nat.le_of_ble_eq_true rfl), (Nat.le_of_ble_eq_true rfl)⟩ ⟨(Nat.le_of_ble_eq_true rfl), (Nat.le_of_ble_eq_true rfl)⟩ (fun u5 H locs q6 hP hD hS => ?_)
      obtain ⟨q6_0, q6_1, q6_2, q6_3, q6_4, q6_5, q6_6⟩ := q6
      have hP : va_P g.1 vwCl [(a14, .inl (g.2 0, 225, .inl mfresh)), (h0, .inr (12, [.int mthrown, .ref a1, .ref a2, .ref a3, .ref a4, .int mtaped, .ref a6, .int msize, .int (u5.1 1), .int (u5.1 2), .int (u5.1 3), .int (u5.1 4), .int (u5.1 5), .int (u5.1 6), .ref a14, .ref a15, .int mgoal, .int mgoalDays, .int mgoalHearer, .ref a19, .ref a20, .int mleastOrder, .int mwordsMany, .ref a23, .ref a24, .ref a25, .ref a26, .ref a27, .ref a28])), (a4, .inl (g.2 1, 900, .inl mtape))] H := hP
      have hD : va_D A [(a14, .inl (g.2 0, 225, .inl mfresh)), (h0, .inr (12, [.int mthrown, .ref a1, .ref a2, .ref a3, .ref a4, .int mtaped, .ref a6, .int msize, .int (u5.1 1), .int (u5.1 2), .int (u5.1 3), .int (u5.1 4), .int (u5.1 5), .int (u5.1 6), .ref a14, .ref a15, .int mgoal, .int mgoalDays, .int mgoalHearer, .ref a19, .ref a20, .int mleastOrder, .int mwordsMany, .ref a23, .ref a24, .ref a25, .ref a26, .ref a27, .ref a28])), (a4, .inl (g.2 1, 900, .inl mtape))] := hD
      refine W.eq (g2 := F0 m 17 ls []) rfl ?_
      refine lv_aload_n hx hb dX12_readNews_17 rfl (lv_at hl 1 rfl) ?_
      refine lv_iconst (v := 1) hx hb dX12_readNews_18 (by decide) ?_
      refine lv_bipush (v := 99) hx hb dX12_readNews_19 (by decide) ?_
      have kc1 : (1 : Int32).toInt = 1 := by decide
      have kc99 : (99 : Int32).toInt = 99 := by decide
      refine call_V (As := [.int 1, .int 99]) (rest := []) (wr := [(a14, .inl (g.2 0, 225, .inl mfresh))]) FC hKn hZ (k_X12_number l g h0 a1 a2 a3 a4 a6 a14 a15 a19 a20 a23 a24 a25 a26 a27 a28 mthrown mtaped msize (u5.1 1) (u5.1 2) (u5.1 3) (u5.1 4) (u5.1 5) (u5.1 6) mgoal mgoalDays mgoalHearer mleastOrder mwordsMany mtape ((1 : Int32)) ((99 : Int32)) (by first | assumption | omega) (by first | assumption | omega) (by first | assumption | omega) (by first | assumption | omega) (by first | assumption | omega) (by first | assumption | omega) (by first | assumption | omega) (by first | assumption | omega) (by first | assumption | omega)) m_yX12_number b_1131 (ci := 12) rfl rfl rfl hP hD hS hA [1, 2] [0] rfl (by decide) rfl (by decide) (by decide) rfl hl.1 rfl (Nat.le_of_ble_eq_true rfl) dX12_readNews_21 ⟨(Nat.le_of_ble_eq_true rfl), (Nat.le_of_ble_eq_true rfl)⟩ ⟨(Nat.le_of_ble_eq_true rfl), (Nat.le_of_ble_eq_true rfl)⟩ (fun u7 H locs q8 hP hD hS => ?_)
      obtain ⟨q8_0, q8_1, q8_2, q8_3, q8_4, q8_5, q8_6, q8_7, q8_8, q8_9⟩ := q8
      have hP : va_P g.1 vwCl [(a14, .inl (g.2 0, 225, .inl mfresh)), (h0, .inr (12, [.int mthrown, .ref a1, .ref a2, .ref a3, .ref a4, .int mtaped, .ref a6, .int msize, .int (u7.1 1), .int (u7.1 2), .int (u7.1 3), .int (u7.1 4), .int (u7.1 5), .int (u7.1 6), .ref a14, .ref a15, .int mgoal, .int mgoalDays, .int mgoalHearer, .ref a19, .ref a20, .int mleastOrder, .int mwordsMany, .ref a23, .ref a24, .ref a25, .ref a26, .ref a27, .ref a28])), (a4, .inl (g.2 1, 900, .inl mtape))] H := hP
      have hD : va_D A [(a14, .inl (g.2 0, 225, .inl mfresh)), (h0, .inr (12, [.int mthrown, .ref a1, .ref a2, .ref a3, .ref a4, .int mtaped, .ref a6, .int msize, .int (u7.1 1), .int (u7.1 2), .int (u7.1 3), .int (u7.1 4), .int (u7.1 5), .int (u7.1 6), .ref a14, .ref a15, .int mgoal, .int mgoalDays, .int mgoalHearer, .ref a19, .ref a20, .int mleastOrder, .int mwordsMany, .ref a23, .ref a24, .ref a25, .ref a26, .ref a27, .ref a28])), (a4, .inl (g.2 1, 900, .inl mtape))] := hD
      refine W.eq (g2 := F0 m 24 ls [.int (u7.1 0)]) rfl ?_
      refine lv_istore_n (lv' := [(2, .int (u7.1 0)), (1, .int (isF mfaultKind mtoken mat mfrom mtape 34)), (0, .ref h0)]) hx hb dX12_readNews_24 rfl hl (by decide) rfl (fun ls hl => ?_)
      refine lv_aload_n hx hb dX12_readNews_25 rfl (lv_at hl 2 rfl) ?_
      refine g_get (C := RX12) (T := TX12) (N := 29) (ci := 12) (v := .ref a14) FC hKn hP i_X12 1 rfl rfl 14 (by decide) b_1132 rfl dX12_readNews_26 ?_
      refine lv_bipush (v := 95) hx hb dX12_readNews_29 (by decide) ?_
      refine lv_aload_n hx hb dX12_readNews_31 rfl (lv_at hl 2 rfl) ?_
      refine g_get (C := RX12) (T := TX12) (N := 29) (ci := 12) (v := .ref a14) FC hKn hP i_X12 1 rfl rfl 14 (by decide) b_1132 rfl dX12_readNews_32 ?_
      refine lv_bipush (v := 8) hx hb dX12_readNews_35 (by decide) ?_
      refine va_iald hx hb hKn.1 hP 0 0 rfl rfl (by unfold vp_in; decide) dX12_readNews_37 ?_
      have kc8 : (8 : Int32).toInt = 8 := by decide
      refine lv_topi (fun z9 e_z9 => ?_)
      have t_z9 : 0 ≤ z9.toInt ∧ z9.toInt ≤ 6 := by rw [e_z9]; exact wk_8 i_mfresh
      have q_z9 : z9.toInt = (mfresh 8).toInt := by rw [e_z9]; rfl
      refine lv_iadd hx hb dX12_readNews_38 ?_
      have kc95 : (95 : Int32).toInt = 95 := by decide
      refine lv_topi (fun z10 e_z10 => ?_)
      have t_z10 : z10.toInt = ((95 : Int32)).toInt + z9.toInt := by rw [e_z10]; exact fb_addI (by omega) (by omega)
      refine lv_iload_n hx hb dX12_readNews_39 rfl (lv_at hl 1 rfl) ?_
      refine lv_if_eq (tgt := 47) hx hb dX12_readNews_40 (by decide) (fun c11 => ?_) (fun c11 => ?_)
      · have c11 := k_eq (a := (isF mfaultKind mtoken mat mfrom mtape 34).toInt) (b := 0) rfl (by decide) c11
        refine lv_iload_n hx hb dX12_readNews_47 rfl (lv_at hl 0 rfl) ?_
        refine lv_ineg hx hb dX12_readNews_48 ?_
        refine lv_topi (fun z12 e_z12 => ?_)
        refine va_iast hx hb hKn.1 hP hD hS 0 0 rfl rfl (vp_in_iff.mpr ⟨by omega, by omega⟩) dX12_readNews_49 (fun H locs hP hD hS => ?_)
        have hP : va_P g.1 vwCl [(a14, .inl (g.2 0, 225, .inl (upd mfresh (z10.toNatClampNeg) z12))), (h0, .inr (12, [.int mthrown, .ref a1, .ref a2, .ref a3, .ref a4, .int mtaped, .ref a6, .int msize, .int (u7.1 1), .int (u7.1 2), .int (u7.1 3), .int (u7.1 4), .int (u7.1 5), .int (u7.1 6), .ref a14, .ref a15, .int mgoal, .int mgoalDays, .int mgoalHearer, .ref a19, .ref a20, .int mleastOrder, .int mwordsMany, .ref a23, .ref a24, .ref a25, .ref a26, .ref a27, .ref a28])), (a4, .inl (g.2 1, 900, .inl mtape))] H := hP
        have hD : va_D A [(a14, .inl (g.2 0, 225, .inl (upd mfresh (z10.toNatClampNeg) z12))), (h0, .inr (12, [.int mthrown, .ref a1, .ref a2, .ref a3, .ref a4, .int mtaped, .ref a6, .int msize, .int (u7.1 1), .int (u7.1 2), .int (u7.1 3), .int (u7.1 4), .int (u7.1 5), .int (u7.1 6), .ref a14, .ref a15, .int mgoal, .int mgoalDays, .int mgoalHearer, .ref a19, .ref a20, .int mleastOrder, .int mwordsMany, .ref a23, .ref a24, .ref a25, .ref a26, .ref a27, .ref a28])), (a4, .inl (g.2 1, 900, .inl mtape))] := hD
        have a_f13 : wok (upd mfresh (z10.toNatClampNeg) z12) := (wx_f i_mfresh (by omega) (by omega))
        refine gn_f (upd mfresh (z10.toNatClampNeg) z12) (fun f13 E_f13 => ?_)
        rw [E_f13] at hP hD a_f13
        have lw_f13 : (11 : Int) ≤ z10.toInt := by (try clear q2_6); (try clear q2_8); (try clear q6_6); (try clear q8_6); (try clear q8_7); (try clear q8_8); (try clear q8_9); omega
        have g_f13_0 : (f13 0).toInt = (mfresh 0).toInt := uklo E_f13 lw_f13 (by decide)
        have g_f13_2 : (f13 2).toInt = (mfresh 2).toInt := uklo E_f13 lw_f13 (by decide)
        have g_f13_5 : (f13 5).toInt = (mfresh 5).toInt := uklo E_f13 lw_f13 (by decide)
        have g_f13_6 : (f13 6).toInt = (mfresh 6).toInt := uklo E_f13 lw_f13 (by decide)
        have g_f13_7 : (f13 7).toInt = (mfresh 7).toInt := uklo E_f13 lw_f13 (by decide)
        have g_f13_8 : (f13 8).toInt = (mfresh 8).toInt := uklo E_f13 lw_f13 (by decide)
        have g_f13_9 : (f13 9).toInt = (mfresh 9).toInt := uklo E_f13 lw_f13 (by decide)
        refine lv_aload_n hx hb dX12_readNews_50 rfl (lv_at hl 2 rfl) ?_
        refine g_get (C := RX12) (T := TX12) (N := 29) (ci := 12) (v := .ref a14) FC hKn hP i_X12 1 rfl rfl 14 (by decide) b_1132 rfl dX12_readNews_51 ?_
        refine lv_bipush (v := 8) hx hb dX12_readNews_54 (by decide) ?_
        refine lv_dup2_11 hx hb dX12_readNews_56 rfl rfl ?_
        refine va_iald hx hb hKn.1 hP 0 0 rfl rfl (by unfold vp_in; decide) dX12_readNews_57 ?_
        refine lv_topi (fun z14 e_z14 => ?_)
        have t_z14 : 0 ≤ z14.toInt ∧ z14.toInt ≤ 6 := by rw [e_z14]; exact wk_8 a_f13
        have q_z14 : z14.toInt = (f13 8).toInt := by rw [e_z14]; rfl
        refine lv_iconst (v := 1) hx hb dX12_readNews_58 (by decide) ?_
        refine lv_iadd hx hb dX12_readNews_59 ?_
        refine lv_topi (fun z15 e_z15 => ?_)
        have t_z15 : z15.toInt = z14.toInt + ((1 : Int32)).toInt := by rw [e_z15]; exact fb_addI (by omega) (by omega)
        refine va_iast hx hb hKn.1 hP hD hS 0 0 rfl rfl (by unfold vp_in; decide) dX12_readNews_60 (fun H locs hP hD hS => ?_)
        have hP : va_P g.1 vwCl [(a14, .inl (g.2 0, 225, .inl (upd f13 ((8 : Int32).toNatClampNeg) z15))), (h0, .inr (12, [.int mthrown, .ref a1, .ref a2, .ref a3, .ref a4, .int mtaped, .ref a6, .int msize, .int (u7.1 1), .int (u7.1 2), .int (u7.1 3), .int (u7.1 4), .int (u7.1 5), .int (u7.1 6), .ref a14, .ref a15, .int mgoal, .int mgoalDays, .int mgoalHearer, .ref a19, .ref a20, .int mleastOrder, .int mwordsMany, .ref a23, .ref a24, .ref a25, .ref a26, .ref a27, .ref a28])), (a4, .inl (g.2 1, 900, .inl mtape))] H := hP
        have hD : va_D A [(a14, .inl (g.2 0, 225, .inl (upd f13 ((8 : Int32).toNatClampNeg) z15))), (h0, .inr (12, [.int mthrown, .ref a1, .ref a2, .ref a3, .ref a4, .int mtaped, .ref a6, .int msize, .int (u7.1 1), .int (u7.1 2), .int (u7.1 3), .int (u7.1 4), .int (u7.1 5), .int (u7.1 6), .ref a14, .ref a15, .int mgoal, .int mgoalDays, .int mgoalHearer, .ref a19, .ref a20, .int mleastOrder, .int mwordsMany, .ref a23, .ref a24, .ref a25, .ref a26, .ref a27, .ref a28])), (a4, .inl (g.2 1, 900, .inl mtape))] := hD
        have a_f16 : wok (upd f13 ((8 : Int32).toNatClampNeg) z15) := (wk_uc (k := 8) a_f13 (by omega))
        refine gn_f (upd f13 ((8 : Int32).toNatClampNeg) z15) (fun f16 E_f16 => ?_)
        rw [E_f16] at hP hD a_f16
        have g_f16_0 : (f16 0).toInt = (f13 0).toInt := by rw [← E_f16, show ((8 : Int32).toNatClampNeg : Nat) = 8 from rfl, uo (by decide)]
        have g_f16_2 : (f16 2).toInt = (f13 2).toInt := by rw [← E_f16, show ((8 : Int32).toNatClampNeg : Nat) = 8 from rfl, uo (by decide)]
        have g_f16_5 : (f16 5).toInt = (f13 5).toInt := by rw [← E_f16, show ((8 : Int32).toNatClampNeg : Nat) = 8 from rfl, uo (by decide)]
        have g_f16_6 : (f16 6).toInt = (f13 6).toInt := by rw [← E_f16, show ((8 : Int32).toNatClampNeg : Nat) = 8 from rfl, uo (by decide)]
        have g_f16_7 : (f16 7).toInt = (f13 7).toInt := by rw [← E_f16, show ((8 : Int32).toNatClampNeg : Nat) = 8 from rfl, uo (by decide)]
        have g_f16_8 : (f16 8).toInt = z15.toInt := by rw [← E_f16, show ((8 : Int32).toNatClampNeg : Nat) = 8 from rfl, pk_us]
        have g_f16_9 : (f16 9).toInt = (f13 9).toInt := by rw [← E_f16, show ((8 : Int32).toNatClampNeg : Nat) = 8 from rfl, uo (by decide)]
        exact rt_v FX ((fun k => match k with | 0 => 0 | 1 => u7.1 1 | 2 => u7.1 2 | 3 => u7.1 3 | 4 => u7.1 4 | 5 => u7.1 5 | 6 => u7.1 6 | _ => 0), (fun k => match k with | 0 => f16 | _ => fun _ => 0), (fun _ => fun _ => 0)) rfl ⟨(show 0 ≤ (u7.1 1).toInt ∧ (u7.1 1).toInt ≤ 900 by first | assumption | omega), (show 0 ≤ (u7.1 2).toInt ∧ (u7.1 2).toInt ≤ 900 by first | assumption | omega), (show 0 ≤ (u7.1 3).toInt ∧ (u7.1 3).toInt ≤ 4 by first | assumption | omega), (show 0 ≤ (u7.1 4).toInt ∧ (u7.1 4).toInt ≤ 99999 by first | assumption | omega), (show 0 ≤ (u7.1 5).toInt ∧ (u7.1 5).toInt ≤ 3 by first | assumption | omega), a_f16, (show 5 * mat.toInt - mtoken.toInt ≤ 5 * (u7.1 1).toInt - (u7.1 3).toInt from (Int.le_trans (q6_5) q8_5)), (show (u7.1 5).toInt = 0 → mfaultKind.toInt = 0 from (fun h9 => (q6_6 (q8_6 h9)))), (show ((f16) 0).toInt = (mfresh 0).toInt ∧ ((f16) 2).toInt = (mfresh 2).toInt from ⟨(g_f16_0.trans (g_f13_0.trans rfl)), (g_f16_2.trans (g_f13_2.trans rfl))⟩)⟩ (hP.sub [1, 2, 0] rfl) (hD.sub [1, 2, 0] (by decide) rfl) hS (Nat.le_of_ble_eq_true rfl) (Nat.le_of_ble_eq_true rfl) dX12_readNews_61
      · have c11 := k_ne (a := (isF mfaultKind mtoken mat mfrom mtape 34).toInt) (b := 0) rfl (by decide) c11
        exfalso; omega
  · skip
    refine lv_istore_n (lv' := [(1, .int (isF mfaultKind mtoken mat mfrom mtape 34)), (0, .ref h0)]) hx hb dX12_readNews_6 rfl hl (by decide) rfl (fun ls hl => ?_)
    refine lv_iload_n hx hb dX12_readNews_7 rfl (lv_at hl 0 rfl) ?_
    refine lv_if_ne (tgt := 17) hx hb dX12_readNews_8 (by decide) (fun c17 => ?_) (fun c17 => ?_)
    · have c17 := k_ne (a := (isF mfaultKind mtoken mat mfrom mtape 34).toInt) (b := 0) rfl (by decide) c17
      refine lv_aload_n hx hb dX12_readNews_17 rfl (lv_at hl 1 rfl) ?_
      refine lv_iconst (v := 1) hx hb dX12_readNews_18 (by decide) ?_
      refine lv_bipush (v := 99) hx hb dX12_readNews_19 (by decide) ?_
      have kc1 : (1 : Int32).toInt = 1 := by decide
      have kc99 : (99 : Int32).toInt = 99 := by decide
      refine call_V (As := [.int 1, .int 99]) (rest := []) (wr := [(a14, .inl (g.2 0, 225, .inl mfresh))]) FC hKn hZ (k_X12_number l g h0 a1 a2 a3 a4 a6 a14 a15 a19 a20 a23 a24 a25 a26 a27 a28 mthrown mtaped msize (u1.1 1) (u1.1 2) (u1.1 3) (u1.1 4) mfaultKind mfaultPlace mgoal mgoalDays mgoalHearer mleastOrder mwordsMany mtape ((1 : Int32)) ((99 : Int32)) (by first | assumption | omega) (by first | assumption | omega) (by first | assumption | omega) (by first | assumption | omega) (by first | assumption | omega) (by first | assumption | omega) (by first | assumption | omega) (by first | assumption | omega) (by first | assumption | omega)) m_yX12_number b_1131 (ci := 12) rfl rfl rfl hP hD hS hA [1, 2] [0] rfl (by decide) rfl (by decide) (by decide) rfl hl.1 rfl (Nat.le_of_ble_eq_true rfl) dX12_readNews_21 ⟨(Nat.le_of_ble_eq_true rfl), (Nat.le_of_ble_eq_true rfl)⟩ ⟨(Nat.le_of_ble_eq_true rfl), (Nat.le_of_ble_eq_true rfl)⟩ (fun u18 H locs q19 hP hD hS => ?_)
      obtain ⟨q19_0, q19_1, q19_2, q19_3, q19_4, q19_5, q19_6, q19_7, q19_8, q19_9⟩ := q19
      have hP : va_P g.1 vwCl [(a14, .inl (g.2 0, 225, .inl mfresh)), (h0, .inr (12, [.int mthrown, .ref a1, .ref a2, .ref a3, .ref a4, .int mtaped, .ref a6, .int msize, .int (u18.1 1), .int (u18.1 2), .int (u18.1 3), .int (u18.1 4), .int (u18.1 5), .int (u18.1 6), .ref a14, .ref a15, .int mgoal, .int mgoalDays, .int mgoalHearer, .ref a19, .ref a20, .int mleastOrder, .int mwordsMany, .ref a23, .ref a24, .ref a25, .ref a26, .ref a27, .ref a28])), (a4, .inl (g.2 1, 900, .inl mtape))] H := hP
      have hD : va_D A [(a14, .inl (g.2 0, 225, .inl mfresh)), (h0, .inr (12, [.int mthrown, .ref a1, .ref a2, .ref a3, .ref a4, .int mtaped, .ref a6, .int msize, .int (u18.1 1), .int (u18.1 2), .int (u18.1 3), .int (u18.1 4), .int (u18.1 5), .int (u18.1 6), .ref a14, .ref a15, .int mgoal, .int mgoalDays, .int mgoalHearer, .ref a19, .ref a20, .int mleastOrder, .int mwordsMany, .ref a23, .ref a24, .ref a25, .ref a26, .ref a27, .ref a28])), (a4, .inl (g.2 1, 900, .inl mtape))] := hD
      refine W.eq (g2 := F0 m 24 ls [.int (u18.1 0)]) rfl ?_
      refine lv_istore_n (lv' := [(2, .int (u18.1 0)), (1, .int (isF mfaultKind mtoken mat mfrom mtape 34)), (0, .ref h0)]) hx hb dX12_readNews_24 rfl hl (by decide) rfl (fun ls hl => ?_)
      refine lv_aload_n hx hb dX12_readNews_25 rfl (lv_at hl 2 rfl) ?_
      refine g_get (C := RX12) (T := TX12) (N := 29) (ci := 12) (v := .ref a14) FC hKn hP i_X12 1 rfl rfl 14 (by decide) b_1132 rfl dX12_readNews_26 ?_
      refine lv_bipush (v := 95) hx hb dX12_readNews_29 (by decide) ?_
      refine lv_aload_n hx hb dX12_readNews_31 rfl (lv_at hl 2 rfl) ?_
      refine g_get (C := RX12) (T := TX12) (N := 29) (ci := 12) (v := .ref a14) FC hKn hP i_X12 1 rfl rfl 14 (by decide) b_1132 rfl dX12_readNews_32 ?_
      refine lv_bipush (v := 8) hx hb dX12_readNews_35 (by decide) ?_
      refine va_iald hx hb hKn.1 hP 0 0 rfl rfl (by unfold vp_in; decide) dX12_readNews_37 ?_
      have kc8 : (8 : Int32).toInt = 8 := by decide
      refine lv_topi (fun z20 e_z20 => ?_)
      have t_z20 : 0 ≤ z20.toInt ∧ z20.toInt ≤ 6 := by rw [e_z20]; exact wk_8 i_mfresh
      have q_z20 : z20.toInt = (mfresh 8).toInt := by rw [e_z20]; rfl
      refine lv_iadd hx hb dX12_readNews_38 ?_
      have kc95 : (95 : Int32).toInt = 95 := by decide
      refine lv_topi (fun z21 e_z21 => ?_)
      have t_z21 : z21.toInt = ((95 : Int32)).toInt + z20.toInt := by rw [e_z21]; exact fb_addI (by omega) (by omega)
      refine lv_iload_n hx hb dX12_readNews_39 rfl (lv_at hl 1 rfl) ?_
      refine lv_if_eq (tgt := 47) hx hb dX12_readNews_40 (by decide) (fun c22 => ?_) (fun c22 => ?_)
      · have c22 := k_eq (a := (isF mfaultKind mtoken mat mfrom mtape 34).toInt) (b := 0) rfl (by decide) c22
        exfalso; omega
      · have c22 := k_ne (a := (isF mfaultKind mtoken mat mfrom mtape 34).toInt) (b := 0) rfl (by decide) c22
        refine lv_iload_n hx hb dX12_readNews_43 rfl (lv_at hl 0 rfl) ?_
        refine lv_goto (tgt := 49) hx hb dX12_readNews_44 (by decide) ?_
        refine va_iast hx hb hKn.1 hP hD hS 0 0 rfl rfl (vp_in_iff.mpr ⟨by omega, by omega⟩) dX12_readNews_49 (fun H locs hP hD hS => ?_)
        have hP : va_P g.1 vwCl [(a14, .inl (g.2 0, 225, .inl (upd mfresh (z21.toNatClampNeg) (u18.1 0)))), (h0, .inr (12, [.int mthrown, .ref a1, .ref a2, .ref a3, .ref a4, .int mtaped, .ref a6, .int msize, .int (u18.1 1), .int (u18.1 2), .int (u18.1 3), .int (u18.1 4), .int (u18.1 5), .int (u18.1 6), .ref a14, .ref a15, .int mgoal, .int mgoalDays, .int mgoalHearer, .ref a19, .ref a20, .int mleastOrder, .int mwordsMany, .ref a23, .ref a24, .ref a25, .ref a26, .ref a27, .ref a28])), (a4, .inl (g.2 1, 900, .inl mtape))] H := hP
        have hD : va_D A [(a14, .inl (g.2 0, 225, .inl (upd mfresh (z21.toNatClampNeg) (u18.1 0)))), (h0, .inr (12, [.int mthrown, .ref a1, .ref a2, .ref a3, .ref a4, .int mtaped, .ref a6, .int msize, .int (u18.1 1), .int (u18.1 2), .int (u18.1 3), .int (u18.1 4), .int (u18.1 5), .int (u18.1 6), .ref a14, .ref a15, .int mgoal, .int mgoalDays, .int mgoalHearer, .ref a19, .ref a20, .int mleastOrder, .int mwordsMany, .ref a23, .ref a24, .ref a25, .ref a26, .ref a27, .ref a28])), (a4, .inl (g.2 1, 900, .inl mtape))] := hD
        have a_f23 : wok (upd mfresh (z21.toNatClampNeg) (u18.1 0)) := (wx_f i_mfresh (by omega) (by omega))
        refine gn_f (upd mfresh (z21.toNatClampNeg) (u18.1 0)) (fun f23 E_f23 => ?_)
        rw [E_f23] at hP hD a_f23
        have lw_f23 : (11 : Int) ≤ z21.toInt := by (try clear q2_6); (try clear q2_8); (try clear q19_6); (try clear q19_7); (try clear q19_8); (try clear q19_9); omega
        have g_f23_0 : (f23 0).toInt = (mfresh 0).toInt := uklo E_f23 lw_f23 (by decide)
        have g_f23_2 : (f23 2).toInt = (mfresh 2).toInt := uklo E_f23 lw_f23 (by decide)
        have g_f23_5 : (f23 5).toInt = (mfresh 5).toInt := uklo E_f23 lw_f23 (by decide)
        have g_f23_6 : (f23 6).toInt = (mfresh 6).toInt := uklo E_f23 lw_f23 (by decide)
        have g_f23_7 : (f23 7).toInt = (mfresh 7).toInt := uklo E_f23 lw_f23 (by decide)
        have g_f23_8 : (f23 8).toInt = (mfresh 8).toInt := uklo E_f23 lw_f23 (by decide)
        have g_f23_9 : (f23 9).toInt = (mfresh 9).toInt := uklo E_f23 lw_f23 (by decide)
        refine lv_aload_n hx hb dX12_readNews_50 rfl (lv_at hl 2 rfl) ?_
        refine g_get (C := RX12) (T := TX12) (N := 29) (ci := 12) (v := .ref a14) FC hKn hP i_X12 1 rfl rfl 14 (by decide) b_1132 rfl dX12_readNews_51 ?_
        refine lv_bipush (v := 8) hx hb dX12_readNews_54 (by decide) ?_
        refine lv_dup2_11 hx hb dX12_readNews_56 rfl rfl ?_
        refine va_iald hx hb hKn.1 hP 0 0 rfl rfl (by unfold vp_in; decide) dX12_readNews_57 ?_
        refine lv_topi (fun z24 e_z24 => ?_)
        have t_z24 : 0 ≤ z24.toInt ∧ z24.toInt ≤ 6 := by rw [e_z24]; exact wk_8 a_f23
        have q_z24 : z24.toInt = (f23 8).toInt := by rw [e_z24]; rfl
        refine lv_iconst (v := 1) hx hb dX12_readNews_58 (by decide) ?_
        refine lv_iadd hx hb dX12_readNews_59 ?_
        refine lv_topi (fun z25 e_z25 => ?_)
        have t_z25 : z25.toInt = z24.toInt + ((1 : Int32)).toInt := by rw [e_z25]; exact fb_addI (by omega) (by omega)
        refine va_iast hx hb hKn.1 hP hD hS 0 0 rfl rfl (by unfold vp_in; decide) dX12_readNews_60 (fun H locs hP hD hS => ?_)
        have hP : va_P g.1 vwCl [(a14, .inl (g.2 0, 225, .inl (upd f23 ((8 : Int32).toNatClampNeg) z25))), (h0, .inr (12, [.int mthrown, .ref a1, .ref a2, .ref a3, .ref a4, .int mtaped, .ref a6, .int msize, .int (u18.1 1), .int (u18.1 2), .int (u18.1 3), .int (u18.1 4), .int (u18.1 5), .int (u18.1 6), .ref a14, .ref a15, .int mgoal, .int mgoalDays, .int mgoalHearer, .ref a19, .ref a20, .int mleastOrder, .int mwordsMany, .ref a23, .ref a24, .ref a25, .ref a26, .ref a27, .ref a28])), (a4, .inl (g.2 1, 900, .inl mtape))] H := hP
        have hD : va_D A [(a14, .inl (g.2 0, 225, .inl (upd f23 ((8 : Int32).toNatClampNeg) z25))), (h0, .inr (12, [.int mthrown, .ref a1, .ref a2, .ref a3, .ref a4, .int mtaped, .ref a6, .int msize, .int (u18.1 1), .int (u18.1 2), .int (u18.1 3), .int (u18.1 4), .int (u18.1 5), .int (u18.1 6), .ref a14, .ref a15, .int mgoal, .int mgoalDays, .int mgoalHearer, .ref a19, .ref a20, .int mleastOrder, .int mwordsMany, .ref a23, .ref a24, .ref a25, .ref a26, .ref a27, .ref a28])), (a4, .inl (g.2 1, 900, .inl mtape))] := hD
        have a_f26 : wok (upd f23 ((8 : Int32).toNatClampNeg) z25) := (wk_uc (k := 8) a_f23 (by omega))
        refine gn_f (upd f23 ((8 : Int32).toNatClampNeg) z25) (fun f26 E_f26 => ?_)
        rw [E_f26] at hP hD a_f26
        have g_f26_0 : (f26 0).toInt = (f23 0).toInt := by rw [← E_f26, show ((8 : Int32).toNatClampNeg : Nat) = 8 from rfl, uo (by decide)]
        have g_f26_2 : (f26 2).toInt = (f23 2).toInt := by rw [← E_f26, show ((8 : Int32).toNatClampNeg : Nat) = 8 from rfl, uo (by decide)]
        have g_f26_5 : (f26 5).toInt = (f23 5).toInt := by rw [← E_f26, show ((8 : Int32).toNatClampNeg : Nat) = 8 from rfl, uo (by decide)]
        have g_f26_6 : (f26 6).toInt = (f23 6).toInt := by rw [← E_f26, show ((8 : Int32).toNatClampNeg : Nat) = 8 from rfl, uo (by decide)]
        have g_f26_7 : (f26 7).toInt = (f23 7).toInt := by rw [← E_f26, show ((8 : Int32).toNatClampNeg : Nat) = 8 from rfl, uo (by decide)]
        have g_f26_8 : (f26 8).toInt = z25.toInt := by rw [← E_f26, show ((8 : Int32).toNatClampNeg : Nat) = 8 from rfl, pk_us]
        have g_f26_9 : (f26 9).toInt = (f23 9).toInt := by rw [← E_f26, show ((8 : Int32).toNatClampNeg : Nat) = 8 from rfl, uo (by decide)]
        exact rt_v FX ((fun k => match k with | 0 => 0 | 1 => u18.1 1 | 2 => u18.1 2 | 3 => u18.1 3 | 4 => u18.1 4 | 5 => u18.1 5 | 6 => u18.1 6 | _ => 0), (fun k => match k with | 0 => f26 | _ => fun _ => 0), (fun _ => fun _ => 0)) rfl ⟨(show 0 ≤ (u18.1 1).toInt ∧ (u18.1 1).toInt ≤ 900 by first | assumption | omega), (show 0 ≤ (u18.1 2).toInt ∧ (u18.1 2).toInt ≤ 900 by first | assumption | omega), (show 0 ≤ (u18.1 3).toInt ∧ (u18.1 3).toInt ≤ 4 by first | assumption | omega), (show 0 ≤ (u18.1 4).toInt ∧ (u18.1 4).toInt ≤ 99999 by first | assumption | omega), (show 0 ≤ (u18.1 5).toInt ∧ (u18.1 5).toInt ≤ 3 by first | assumption | omega), a_f26, (show 5 * mat.toInt - mtoken.toInt ≤ 5 * (u18.1 1).toInt - (u18.1 3).toInt from (Int.le_trans (q2_7) q19_5)), (show (u18.1 5).toInt = 0 → mfaultKind.toInt = 0 from (fun h9 => (q19_6 h9))), (show ((f26) 0).toInt = (mfresh 0).toInt ∧ ((f26) 2).toInt = (mfresh 2).toInt from ⟨(g_f26_0.trans (g_f23_0.trans rfl)), (g_f26_2.trans (g_f23_2.trans rfl))⟩)⟩ (hP.sub [1, 2, 0] rfl) (hD.sub [1, 2, 0] (by decide) rfl) hS (Nat.le_of_ble_eq_true rfl) (Nat.le_of_ble_eq_true rfl) dX12_readNews_61
    · have c17 := k_eq (a := (isF mfaultKind mtoken mat mfrom mtape 34).toInt) (b := 0) rfl (by decide) c17
      exfalso; omega
