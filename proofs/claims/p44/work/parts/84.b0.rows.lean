set_option maxRecDepth 100000 in
set_option maxHeartbeats 4000000 in
theorem k_X12_readFirst (l : Launch) (g : GG) (h0 : Nat) (a1 : Nat) (a2 : Nat) (a3 : Nat) (a4 : Nat) (a6 : Nat) (a14 : Nat) (a15 : Nat) (a19 : Nat) (a20 : Nat) (a23 : Nat) (a24 : Nat) (a25 : Nat) (a26 : Nat) (a27 : Nat) (a28 : Nat) (mthrown : Int32) (mtaped : Int32) (msize : Int32) (mat : Int32) (mfrom : Int32) (mtoken : Int32) (mvalue : Int32) (mfaultKind : Int32) (mfaultPlace : Int32) (mgoal : Int32) (mgoalDays : Int32) (mgoalHearer : Int32) (mleastOrder : Int32) (mwordsMany : Int32) (mtape : Nat → Int32) (mfresh : Nat → Int32) (i_mtaped : 0 ≤ mtaped.toInt ∧ mtaped.toInt ≤ 900) (i_msize : 0 ≤ msize.toInt ∧ msize.toInt ≤ 900) (i_mat : 0 ≤ mat.toInt ∧ mat.toInt ≤ 900) (i_mfrom : 0 ≤ mfrom.toInt ∧ mfrom.toInt ≤ 900) (i_mtoken : 0 ≤ mtoken.toInt ∧ mtoken.toInt ≤ 4) (i_mvalue : 0 ≤ mvalue.toInt ∧ mvalue.toInt ≤ 99999) (i_mfaultKind : 0 ≤ mfaultKind.toInt ∧ mfaultKind.toInt ≤ 3) (i_mgoalHearer : 0 ≤ mgoalHearer.toInt ∧ mgoalHearer.toInt ≤ 3) (i_mwordsMany : 0 ≤ mwordsMany.toInt ∧ mwordsMany.toInt ≤ 10) (i_mfresh : wok mfresh) : Ct l g yX12_readFirst cX12_readFirst 1 none { frames := 8, cells := 0, slots := 0, locals := 174 } [.ref h0] [(h0, .inr (12, [.int mthrown, .ref a1, .ref a2, .ref a3, .ref a4, .int mtaped, .ref a6, .int msize, .int mat, .int mfrom, .int mtoken, .int mvalue, .int mfaultKind, .int mfaultPlace, .ref a14, .ref a15, .int mgoal, .int mgoalDays, .int mgoalHearer, .ref a19, .ref a20, .int mleastOrder, .int mwordsMany, .ref a23, .ref a24, .ref a25, .ref a26, .ref a27, .ref a28])), (a4, .inl (g.2 1, 900, .inl mtape)), (a14, .inl (g.2 0, 225, .inl mfresh))] (S := (Nat → Int32) × (Nat → Nat → Int32) × (Nat → Nat → Int64)) (fun _ => none) (fun u => (0 ≤ (u.1 1).toInt ∧ (u.1 1).toInt ≤ 900) ∧ (0 ≤ (u.1 2).toInt ∧ (u.1 2).toInt ≤ 900) ∧ (0 ≤ (u.1 3).toInt ∧ (u.1 3).toInt ≤ 4) ∧ (0 ≤ (u.1 4).toInt ∧ (u.1 4).toInt ≤ 99999) ∧ (0 ≤ (u.1 5).toInt ∧ (u.1 5).toInt ≤ 3) ∧ (wok (u.2.1 0)) ∧ (5 * mat.toInt - mtoken.toInt ≤ 5 * (u.1 1).toInt - (u.1 3).toInt) ∧ ((u.1 5).toInt = 0 → mfaultKind.toInt = 0) ∧ ((u.1 5).toInt = 0 → 1 ≤ ((u.2.1 0) 0).toInt ∧ 1 ≤ ((u.2.1 0) 2).toInt)) (fun u => [(h0, .inr (12, [.int mthrown, .ref a1, .ref a2, .ref a3, .ref a4, .int mtaped, .ref a6, .int msize, .int (u.1 1), .int (u.1 2), .int (u.1 3), .int (u.1 4), .int (u.1 5), .int (u.1 6), .ref a14, .ref a15, .int mgoal, .int mgoalDays, .int mgoalHearer, .ref a19, .ref a20, .int mleastOrder, .int mwordsMany, .ref a23, .ref a24, .ref a25, .ref a26, .ref a27, .ref a28])), (a4, .inl (g.2 1, 900, .inl mtape)), (a14, .inl (g.2 0, 225, .inl (u.2.1 0)))]) := by
  refine Ct.of (by decide) (Nat.le_of_ble_eq_true rfl) ?_
  intro p e s m below meth c A ls FX hP hD hS hl
  obtain ⟨FC, hr, hlk, hKn, hA, hnm, hZ⟩ := id FX
  have FC : CallFix p m c cX12_readFirst 1 s _ BIG RX12 := FC
  obtain ⟨hx, hb, hml, hown, hB⟩ := id FC
  have hl : lv_has ls 1 [(0, .ref h0)] := hl
  refine lv_aload_n hx hb dX12_readFirst_0 rfl (lv_at hl 0 rfl) ?_
  refine va_ldcS hx hb hown (hZ.2.2 18 _ rfl).1 dX12_readFirst_1 ?_
  refine call_V (As := [.ref (sa g 18)]) (rest := []) (wr := [(a14, .inl (g.2 0, 225, .inl mfresh))]) FC hKn hZ (k_X12_needs l g 18 h0 a1 a2 a3 a4 a6 a14 a15 a19 a20 a23 a24 a25 a26 a27 a28 mthrown mtaped msize mat mfrom mtoken mvalue mfaultKind mfaultPlace mgoal mgoalDays mgoalHearer mleastOrder mwordsMany mtape (by omega) (by omega) (by omega) (by omega) (by omega) (by omega) (by omega) (by omega) (by omega) (by omega)) m_yX12_needs b_1130 (ci := 12) rfl rfl rfl hP hD hS hA [0, 1] [2] rfl (by decide) rfl (by decide) (by decide) rfl hl.1 rfl (Nat.le_of_ble_eq_true rfl) dX12_readFirst_3 ⟨(Nat.le_of_ble_eq_true rfl), (Nat.le_of_ble_eq_true rfl)⟩ ⟨(Nat.le_of_ble_eq_true rfl), (Nat.le_of_ble_eq_true rfl)⟩ (fun u1 H locs q2 hP hD hS => ?_)
  obtain ⟨q2_0, q2_1, q2_2, q2_3, q2_4, q2_5, q2_6⟩ := q2
  have hP : va_P g.1 vwCl [(a14, .inl (g.2 0, 225, .inl mfresh)), (h0, .inr (12, [.int mthrown, .ref a1, .ref a2, .ref a3, .ref a4, .int mtaped, .ref a6, .int msize, .int (u1.1 1), .int (u1.1 2), .int (u1.1 3), .int (u1.1 4), .int (u1.1 5), .int (u1.1 6), .ref a14, .ref a15, .int mgoal, .int mgoalDays, .int mgoalHearer, .ref a19, .ref a20, .int mleastOrder, .int mwordsMany, .ref a23, .ref a24, .ref a25, .ref a26, .ref a27, .ref a28])), (a4, .inl (g.2 1, 900, .inl mtape))] H := hP
  have hD : va_D A [(a14, .inl (g.2 0, 225, .inl mfresh)), (h0, .inr (12, [.int mthrown, .ref a1, .ref a2, .ref a3, .ref a4, .int mtaped, .ref a6, .int msize, .int (u1.1 1), .int (u1.1 2), .int (u1.1 3), .int (u1.1 4), .int (u1.1 5), .int (u1.1 6), .ref a14, .ref a15, .int mgoal, .int mgoalDays, .int mgoalHearer, .ref a19, .ref a20, .int mleastOrder, .int mwordsMany, .ref a23, .ref a24, .ref a25, .ref a26, .ref a27, .ref a28])), (a4, .inl (g.2 1, 900, .inl mtape))] := hD
  refine W.eq (g2 := F0 m 6 ls []) rfl ?_
  refine lv_aload_n hx hb dX12_readFirst_6 rfl (lv_at hl 0 rfl) ?_
  refine g_get (C := RX12) (T := TX12) (N := 29) (ci := 12) (v := .ref a14) FC hKn hP i_X12 1 rfl rfl 14 (by decide) b_1132 rfl dX12_readFirst_7 ?_
  refine lv_iconst (v := 0) hx hb dX12_readFirst_10 (by decide) ?_
  refine lv_aload_n hx hb dX12_readFirst_11 rfl (lv_at hl 0 rfl) ?_
  refine va_ldcS hx hb hown (hZ.2.2 19 _ rfl).1 dX12_readFirst_12 ?_
  refine lv_iconst (v := 2) hx hb dX12_readFirst_14 (by decide) ?_
  refine lv_bipush (v := 8) hx hb dX12_readFirst_15 (by decide) ?_
  have kc2 : (2 : Int32).toInt = 2 := by decide
  have kc8 : (8 : Int32).toInt = 8 := by decide
  refine call_V (As := [.ref (sa g 19), .int 2, .int 8]) (rest := [.int 0, .ref a14]) (wr := [(a14, .inl (g.2 0, 225, .inl mfresh))]) FC hKn hZ (k_X12_told l g 19 h0 a1 a2 a3 a4 a6 a14 a15 a19 a20 a23 a24 a25 a26 a27 a28 mthrown mtaped msize (u1.1 1) (u1.1 2) (u1.1 3) (u1.1 4) (u1.1 5) (u1.1 6) mgoal mgoalDays mgoalHearer mleastOrder mwordsMany mtape ((2 : Int32)) ((8 : Int32)) (by omega) (by omega) (by omega) (by omega) (by omega) (by omega) (by omega) (by omega) (by omega) (by omega)) m_yX12_told b_1151 (ci := 12) rfl rfl rfl hP hD hS hA [1, 2] [0] rfl (by decide) rfl (by decide) (by decide) rfl hl.1 rfl (Nat.le_of_ble_eq_true rfl) dX12_readFirst_17 ⟨(Nat.le_of_ble_eq_true rfl), (Nat.le_of_ble_eq_true rfl)⟩ ⟨(Nat.le_of_ble_eq_true rfl), (Nat.le_of_ble_eq_true rfl)⟩ (fun u3 H locs q4 hP hD hS => ?_)
  obtain ⟨q4_0, q4_1, q4_2, q4_3, q4_4, q4_5, q4_6, q4_7, q4_8⟩ := q4
  have hP : va_P g.1 vwCl [(a14, .inl (g.2 0, 225, .inl mfresh)), (h0, .inr (12, [.int mthrown, .ref a1, .ref a2, .ref a3, .ref a4, .int mtaped, .ref a6, .int msize, .int (u3.1 1), .int (u3.1 2), .int (u3.1 3), .int (u3.1 4), .int (u3.1 5), .int (u3.1 6), .ref a14, .ref a15, .int mgoal, .int mgoalDays, .int mgoalHearer, .ref a19, .ref a20, .int mleastOrder, .int mwordsMany, .ref a23, .ref a24, .ref a25, .ref a26, .ref a27, .ref a28])), (a4, .inl (g.2 1, 900, .inl mtape))] H := hP
  have hD : va_D A [(a14, .inl (g.2 0, 225, .inl mfresh)), (h0, .inr (12, [.int mthrown, .ref a1, .ref a2, .ref a3, .ref a4, .int mtaped, .ref a6, .int msize, .int (u3.1 1), .int (u3.1 2), .int (u3.1 3), .int (u3.1 4), .int (u3.1 5), .int (u3.1 6), .ref a14, .ref a15, .int mgoal, .int mgoalDays, .int mgoalHearer, .ref a19, .ref a20, .int mleastOrder, .int mwordsMany, .ref a23, .ref a24, .ref a25, .ref a26, .ref a27, .ref a28])), (a4, .inl (g.2 1, 900, .inl mtape))] := hD
  refine W.eq (g2 := F0 m 20 ls [.int (u3.1 0), .int 0, .ref a14]) rfl ?_
  refine va_iast hx hb hKn.1 hP hD hS 0 0 rfl rfl (by unfold vp_in; decide) dX12_readFirst_20 (fun H locs hP hD hS => ?_)
  have hP : va_P g.1 vwCl [(a14, .inl (g.2 0, 225, .inl (upd mfresh ((0 : Int32).toNatClampNeg) (u3.1 0)))), (h0, .inr (12, [.int mthrown, .ref a1, .ref a2, .ref a3, .ref a4, .int mtaped, .ref a6, .int msize, .int (u3.1 1), .int (u3.1 2), .int (u3.1 3), .int (u3.1 4), .int (u3.1 5), .int (u3.1 6), .ref a14, .ref a15, .int mgoal, .int mgoalDays, .int mgoalHearer, .ref a19, .ref a20, .int mleastOrder, .int mwordsMany, .ref a23, .ref a24, .ref a25, .ref a26, .ref a27, .ref a28])), (a4, .inl (g.2 1, 900, .inl mtape))] H := hP
  have hD : va_D A [(a14, .inl (g.2 0, 225, .inl (upd mfresh ((0 : Int32).toNatClampNeg) (u3.1 0)))), (h0, .inr (12, [.int mthrown, .ref a1, .ref a2, .ref a3, .ref a4, .int mtaped, .ref a6, .int msize, .int (u3.1 1), .int (u3.1 2), .int (u3.1 3), .int (u3.1 4), .int (u3.1 5), .int (u3.1 6), .ref a14, .ref a15, .int mgoal, .int mgoalDays, .int mgoalHearer, .ref a19, .ref a20, .int mleastOrder, .int mwordsMany, .ref a23, .ref a24, .ref a25, .ref a26, .ref a27, .ref a28])), (a4, .inl (g.2 1, 900, .inl mtape))] := hD
  have kc0 : (0 : Int32).toInt = 0 := by decide
  have a_f5 : wok (upd mfresh ((0 : Int32).toNatClampNeg) (u3.1 0)) := (wk_uc (k := 0) i_mfresh (by omega))
  generalize E_f5 : (upd mfresh ((0 : Int32).toNatClampNeg) (u3.1 0) : Nat → Int32) = f5 at hP hD a_f5
  have g_f5_0 : (f5 0).toInt = (u3.1 0).toInt := by rw [← E_f5]; exact congrArg Int32.toInt (pk_us (k := 0))
  have g_f5_2 : (f5 2).toInt = (mfresh 2).toInt := by rw [← E_f5]; exact congrArg Int32.toInt (uo (k := 0) (by decide))
  have g_f5_5 : (f5 5).toInt = (mfresh 5).toInt := by rw [← E_f5]; exact congrArg Int32.toInt (uo (k := 0) (by decide))
  have g_f5_6 : (f5 6).toInt = (mfresh 6).toInt := by rw [← E_f5]; exact congrArg Int32.toInt (uo (k := 0) (by decide))
  have g_f5_7 : (f5 7).toInt = (mfresh 7).toInt := by rw [← E_f5]; exact congrArg Int32.toInt (uo (k := 0) (by decide))
  have g_f5_8 : (f5 8).toInt = (mfresh 8).toInt := by rw [← E_f5]; exact congrArg Int32.toInt (uo (k := 0) (by decide))
  have g_f5_9 : (f5 9).toInt = (mfresh 9).toInt := by rw [← E_f5]; exact congrArg Int32.toInt (uo (k := 0) (by decide))
  refine lv_aload_n hx hb dX12_readFirst_21 rfl (lv_at hl 0 rfl) ?_
  refine va_ldcS hx hb hown (hZ.2.2 20 _ rfl).1 dX12_readFirst_22 ?_
  refine call_V (As := [.ref (sa g 20)]) (rest := []) (wr := [(a14, .inl (g.2 0, 225, .inl f5))]) FC hKn hZ (k_X12_needs l g 20 h0 a1 a2 a3 a4 a6 a14 a15 a19 a20 a23 a24 a25 a26 a27 a28 mthrown mtaped msize (u3.1 1) (u3.1 2) (u3.1 3) (u3.1 4) (u3.1 5) (u3.1 6) mgoal mgoalDays mgoalHearer mleastOrder mwordsMany mtape (by omega) (by omega) (by omega) (by omega) (by omega) (by omega) (by omega) (by omega) (by omega) (by omega)) m_yX12_needs b_1130 (ci := 12) rfl rfl rfl hP hD hS hA [1, 2] [0] rfl (by decide) rfl (by decide) (by decide) rfl hl.1 rfl (Nat.le_of_ble_eq_true rfl) dX12_readFirst_24 ⟨(Nat.le_of_ble_eq_true rfl), (Nat.le_of_ble_eq_true rfl)⟩ ⟨(Nat.le_of_ble_eq_true rfl), (Nat.le_of_ble_eq_true rfl)⟩ (fun u6 H locs q7 hP hD hS => ?_)
  obtain ⟨q7_0, q7_1, q7_2, q7_3, q7_4, q7_5, q7_6⟩ := q7
  have hP : va_P g.1 vwCl [(a14, .inl (g.2 0, 225, .inl f5)), (h0, .inr (12, [.int mthrown, .ref a1, .ref a2, .ref a3, .ref a4, .int mtaped, .ref a6, .int msize, .int (u6.1 1), .int (u6.1 2), .int (u6.1 3), .int (u6.1 4), .int (u6.1 5), .int (u6.1 6), .ref a14, .ref a15, .int mgoal, .int mgoalDays, .int mgoalHearer, .ref a19, .ref a20, .int mleastOrder, .int mwordsMany, .ref a23, .ref a24, .ref a25, .ref a26, .ref a27, .ref a28])), (a4, .inl (g.2 1, 900, .inl mtape))] H := hP
  have hD : va_D A [(a14, .inl (g.2 0, 225, .inl f5)), (h0, .inr (12, [.int mthrown, .ref a1, .ref a2, .ref a3, .ref a4, .int mtaped, .ref a6, .int msize, .int (u6.1 1), .int (u6.1 2), .int (u6.1 3), .int (u6.1 4), .int (u6.1 5), .int (u6.1 6), .ref a14, .ref a15, .int mgoal, .int mgoalDays, .int mgoalHearer, .ref a19, .ref a20, .int mleastOrder, .int mwordsMany, .ref a23, .ref a24, .ref a25, .ref a26, .ref a27, .ref a28])), (a4, .inl (g.2 1, 900, .inl mtape))] := hD
  refine W.eq (g2 := F0 m 27 ls []) rfl ?_
  refine lv_aload_n hx hb dX12_readFirst_27 rfl (lv_at hl 0 rfl) ?_
  refine g_get (C := RX12) (T := TX12) (N := 29) (ci := 12) (v := .ref a14) FC hKn hP i_X12 1 rfl rfl 14 (by decide) b_1132 rfl dX12_readFirst_28 ?_
  refine lv_iconst (v := 1) hx hb dX12_readFirst_31 (by decide) ?_
  refine lv_aload_n hx hb dX12_readFirst_32 rfl (lv_at hl 0 rfl) ?_
  refine call_V (As := []) (rest := [.int 1, .ref a14]) (wr := []) FC hKn hZ (k_X12_freshState l g h0 a1 a2 a3 a4 a6 a14 a15 a19 a20 a23 a24 a25 a26 a27 a28 mthrown mtaped msize (u6.1 1) (u6.1 2) (u6.1 3) (u6.1 4) (u6.1 5) (u6.1 6) mgoal mgoalDays mgoalHearer mleastOrder mwordsMany mtape f5 (by omega) (by omega) (by omega) (by omega) (by omega) (by omega) (by omega) (by omega) (by omega) a_f5) m_yX12_freshState b_1152 (ci := 12) rfl rfl rfl hP hD hS hA [1, 2, 0] [] rfl (by decide) rfl (by decide) (by decide) rfl hl.1 rfl (Nat.le_of_ble_eq_true rfl) dX12_readFirst_33 ⟨(Nat.le_of_ble_eq_true rfl), (Nat.le_of_ble_eq_true rfl)⟩ ⟨(Nat.le_of_ble_eq_true rfl), (Nat.le_of_ble_eq_true rfl)⟩ (fun u8 H locs q9 hP hD hS => ?_)
  obtain ⟨q9_0, q9_1, q9_2, q9_3, q9_4, q9_5, q9_6, q9_7, q9_8, q9_9⟩ := q9
  have hP : va_P g.1 vwCl [(h0, .inr (12, [.int mthrown, .ref a1, .ref a2, .ref a3, .ref a4, .int mtaped, .ref a6, .int msize, .int (u8.1 1), .int (u8.1 2), .int (u8.1 3), .int (u8.1 4), .int (u8.1 5), .int (u8.1 6), .ref a14, .ref a15, .int mgoal, .int mgoalDays, .int mgoalHearer, .ref a19, .ref a20, .int mleastOrder, .int mwordsMany, .ref a23, .ref a24, .ref a25, .ref a26, .ref a27, .ref a28])), (a4, .inl (g.2 1, 900, .inl mtape)), (a14, .inl (g.2 0, 225, .inl f5))] H := hP
  have hD : va_D A [(h0, .inr (12, [.int mthrown, .ref a1, .ref a2, .ref a3, .ref a4, .int mtaped, .ref a6, .int msize, .int (u8.1 1), .int (u8.1 2), .int (u8.1 3), .int (u8.1 4), .int (u8.1 5), .int (u8.1 6), .ref a14, .ref a15, .int mgoal, .int mgoalDays, .int mgoalHearer, .ref a19, .ref a20, .int mleastOrder, .int mwordsMany, .ref a23, .ref a24, .ref a25, .ref a26, .ref a27, .ref a28])), (a4, .inl (g.2 1, 900, .inl mtape)), (a14, .inl (g.2 0, 225, .inl f5))] := hD
  refine W.eq (g2 := F0 m 36 ls [.int (u8.1 0), .int 1, .ref a14]) rfl ?_
  refine va_iast hx hb hKn.1 hP hD hS 2 0 rfl rfl (by unfold vp_in; decide) dX12_readFirst_36 (fun H locs hP hD hS => ?_)
  have hP : va_P g.1 vwCl [(h0, .inr (12, [.int mthrown, .ref a1, .ref a2, .ref a3, .ref a4, .int mtaped, .ref a6, .int msize, .int (u8.1 1), .int (u8.1 2), .int (u8.1 3), .int (u8.1 4), .int (u8.1 5), .int (u8.1 6), .ref a14, .ref a15, .int mgoal, .int mgoalDays, .int mgoalHearer, .ref a19, .ref a20, .int mleastOrder, .int mwordsMany, .ref a23, .ref a24, .ref a25, .ref a26, .ref a27, .ref a28])), (a4, .inl (g.2 1, 900, .inl mtape)), (a14, .inl (g.2 0, 225, .inl (upd f5 ((1 : Int32).toNatClampNeg) (u8.1 0))))] H := hP
  have hD : va_D A [(h0, .inr (12, [.int mthrown, .ref a1, .ref a2, .ref a3, .ref a4, .int mtaped, .ref a6, .int msize, .int (u8.1 1), .int (u8.1 2), .int (u8.1 3), .int (u8.1 4), .int (u8.1 5), .int (u8.1 6), .ref a14, .ref a15, .int mgoal, .int mgoalDays, .int mgoalHearer, .ref a19, .ref a20, .int mleastOrder, .int mwordsMany, .ref a23, .ref a24, .ref a25, .ref a26, .ref a27, .ref a28])), (a4, .inl (g.2 1, 900, .inl mtape)), (a14, .inl (g.2 0, 225, .inl (upd f5 ((1 : Int32).toNatClampNeg) (u8.1 0))))] := hD
  have kc1 : (1 : Int32).toInt = 1 := by decide
  have a_f10 : wok (upd f5 ((1 : Int32).toNatClampNeg) (u8.1 0)) := (wk_uc (k := 1) a_f5 (by omega))
  generalize E_f10 : (upd f5 ((1 : Int32).toNatClampNeg) (u8.1 0) : Nat → Int32) = f10 at hP hD a_f10
  have g_f10_0 : (f10 0).toInt = (f5 0).toInt := by rw [← E_f10]; exact congrArg Int32.toInt (uo (k := 1) (by decide))
  have g_f10_2 : (f10 2).toInt = (f5 2).toInt := by rw [← E_f10]; exact congrArg Int32.toInt (uo (k := 1) (by decide))
  have g_f10_5 : (f10 5).toInt = (f5 5).toInt := by rw [← E_f10]; exact congrArg Int32.toInt (uo (k := 1) (by decide))
  have g_f10_6 : (f10 6).toInt = (f5 6).toInt := by rw [← E_f10]; exact congrArg Int32.toInt (uo (k := 1) (by decide))
  have g_f10_7 : (f10 7).toInt = (f5 7).toInt := by rw [← E_f10]; exact congrArg Int32.toInt (uo (k := 1) (by decide))
  have g_f10_8 : (f10 8).toInt = (f5 8).toInt := by rw [← E_f10]; exact congrArg Int32.toInt (uo (k := 1) (by decide))
  have g_f10_9 : (f10 9).toInt = (f5 9).toInt := by rw [← E_f10]; exact congrArg Int32.toInt (uo (k := 1) (by decide))
  refine lv_aload_n hx hb dX12_readFirst_37 rfl (lv_at hl 0 rfl) ?_
  refine g_get (C := RX12) (T := TX12) (N := 29) (ci := 12) (v := .ref a14) FC hKn hP i_X12 0 rfl rfl 14 (by decide) b_1132 rfl dX12_readFirst_38 ?_
  refine lv_iconst (v := 2) hx hb dX12_readFirst_41 (by decide) ?_
  refine lv_aload_n hx hb dX12_readFirst_42 rfl (lv_at hl 0 rfl) ?_
  refine va_ldcS hx hb hown (hZ.2.2 21 _ rfl).1 dX12_readFirst_43 ?_
  refine lv_iconst (v := 1) hx hb dX12_readFirst_45 (by decide) ?_
  refine lv_bipush (v := 10) hx hb dX12_readFirst_46 (by decide) ?_
  have kc10 : (10 : Int32).toInt = 10 := by decide
  refine call_V (As := [.ref (sa g 21), .int 1, .int 10]) (rest := [.int 2, .ref a14]) (wr := [(a14, .inl (g.2 0, 225, .inl f10))]) FC hKn hZ (k_X12_told l g 21 h0 a1 a2 a3 a4 a6 a14 a15 a19 a20 a23 a24 a25 a26 a27 a28 mthrown mtaped msize (u8.1 1) (u8.1 2) (u8.1 3) (u8.1 4) (u8.1 5) (u8.1 6) mgoal mgoalDays mgoalHearer mleastOrder mwordsMany mtape ((1 : Int32)) ((10 : Int32)) (by omega) (by omega) (by omega) (by omega) (by omega) (by omega) (by omega) (by omega) (by omega) (by omega)) m_yX12_told b_1151 (ci := 12) rfl rfl rfl hP hD hS hA [0, 1] [2] rfl (by decide) rfl (by decide) (by decide) rfl hl.1 rfl (Nat.le_of_ble_eq_true rfl) dX12_readFirst_48 ⟨(Nat.le_of_ble_eq_true rfl), (Nat.le_of_ble_eq_true rfl)⟩ ⟨(Nat.le_of_ble_eq_true rfl), (Nat.le_of_ble_eq_true rfl)⟩ (fun u11 H locs q12 hP hD hS => ?_)
  obtain ⟨q12_0, q12_1, q12_2, q12_3, q12_4, q12_5, q12_6, q12_7, q12_8⟩ := q12
  have hP : va_P g.1 vwCl [(a14, .inl (g.2 0, 225, .inl f10)), (h0, .inr (12, [.int mthrown, .ref a1, .ref a2, .ref a3, .ref a4, .int mtaped, .ref a6, .int msize, .int (u11.1 1), .int (u11.1 2), .int (u11.1 3), .int (u11.1 4), .int (u11.1 5), .int (u11.1 6), .ref a14, .ref a15, .int mgoal, .int mgoalDays, .int mgoalHearer, .ref a19, .ref a20, .int mleastOrder, .int mwordsMany, .ref a23, .ref a24, .ref a25, .ref a26, .ref a27, .ref a28])), (a4, .inl (g.2 1, 900, .inl mtape))] H := hP
  have hD : va_D A [(a14, .inl (g.2 0, 225, .inl f10)), (h0, .inr (12, [.int mthrown, .ref a1, .ref a2, .ref a3, .ref a4, .int mtaped, .ref a6, .int msize, .int (u11.1 1), .int (u11.1 2), .int (u11.1 3), .int (u11.1 4), .int (u11.1 5), .int (u11.1 6), .ref a14, .ref a15, .int mgoal, .int mgoalDays, .int mgoalHearer, .ref a19, .ref a20, .int mleastOrder, .int mwordsMany, .ref a23, .ref a24, .ref a25, .ref a26, .ref a27, .ref a28])), (a4, .inl (g.2 1, 900, .inl mtape))] := hD
  refine W.eq (g2 := F0 m 51 ls [.int (u11.1 0), .int 2, .ref a14]) rfl ?_
  refine va_iast hx hb hKn.1 hP hD hS 0 0 rfl rfl (by unfold vp_in; decide) dX12_readFirst_51 (fun H locs hP hD hS => ?_)
  have hP : va_P g.1 vwCl [(a14, .inl (g.2 0, 225, .inl (upd f10 ((2 : Int32).toNatClampNeg) (u11.1 0)))), (h0, .inr (12, [.int mthrown, .ref a1, .ref a2, .ref a3, .ref a4, .int mtaped, .ref a6, .int msize, .int (u11.1 1), .int (u11.1 2), .int (u11.1 3), .int (u11.1 4), .int (u11.1 5), .int (u11.1 6), .ref a14, .ref a15, .int mgoal, .int mgoalDays, .int mgoalHearer, .ref a19, .ref a20, .int mleastOrder, .int mwordsMany, .ref a23, .ref a24, .ref a25, .ref a26, .ref a27, .ref a28])), (a4, .inl (g.2 1, 900, .inl mtape))] H := hP
  have hD : va_D A [(a14, .inl (g.2 0, 225, .inl (upd f10 ((2 : Int32).toNatClampNeg) (u11.1 0)))), (h0, .inr (12, [.int mthrown, .ref a1, .ref a2, .ref a3, .ref a4, .int mtaped, .ref a6, .int msize, .int (u11.1 1), .int (u11.1 2), .int (u11.1 3), .int (u11.1 4), .int (u11.1 5), .int (u11.1 6), .ref a14, .ref a15, .int mgoal, .int mgoalDays, .int mgoalHearer, .ref a19, .ref a20, .int mleastOrder, .int mwordsMany, .ref a23, .ref a24, .ref a25, .ref a26, .ref a27, .ref a28])), (a4, .inl (g.2 1, 900, .inl mtape))] := hD
  have a_f13 : wok (upd f10 ((2 : Int32).toNatClampNeg) (u11.1 0)) := (wk_uc (k := 2) a_f10 (by omega))
  generalize E_f13 : (upd f10 ((2 : Int32).toNatClampNeg) (u11.1 0) : Nat → Int32) = f13 at hP hD a_f13
  have g_f13_0 : (f13 0).toInt = (f10 0).toInt := by rw [← E_f13]; exact congrArg Int32.toInt (uo (k := 2) (by decide))
  have g_f13_2 : (f13 2).toInt = (u11.1 0).toInt := by rw [← E_f13]; exact congrArg Int32.toInt (pk_us (k := 2))
  have g_f13_5 : (f13 5).toInt = (f10 5).toInt := by rw [← E_f13]; exact congrArg Int32.toInt (uo (k := 2) (by decide))
  have g_f13_6 : (f13 6).toInt = (f10 6).toInt := by rw [← E_f13]; exact congrArg Int32.toInt (uo (k := 2) (by decide))
  have g_f13_7 : (f13 7).toInt = (f10 7).toInt := by rw [← E_f13]; exact congrArg Int32.toInt (uo (k := 2) (by decide))
  have g_f13_8 : (f13 8).toInt = (f10 8).toInt := by rw [← E_f13]; exact congrArg Int32.toInt (uo (k := 2) (by decide))
  have g_f13_9 : (f13 9).toInt = (f10 9).toInt := by rw [← E_f13]; exact congrArg Int32.toInt (uo (k := 2) (by decide))
  refine lv_aload_n hx hb dX12_readFirst_52 rfl (lv_at hl 0 rfl) ?_
  refine g_get (C := RX12) (T := TX12) (N := 29) (ci := 12) (v := .ref a14) FC hKn hP i_X12 1 rfl rfl 14 (by decide) b_1132 rfl dX12_readFirst_53 ?_
  refine lv_iconst (v := 3) hx hb dX12_readFirst_56 (by decide) ?_
  refine lv_aload_n hx hb dX12_readFirst_57 rfl (lv_at hl 0 rfl) ?_
  refine va_ldcS hx hb hown (hZ.2.2 22 _ rfl).1 dX12_readFirst_58 ?_
  refine lv_iconst (v := 0) hx hb dX12_readFirst_60 (by decide) ?_
  refine lv_bipush (v := 100) hx hb dX12_readFirst_61 (by decide) ?_
  have kc100 : (100 : Int32).toInt = 100 := by decide
  refine call_V (As := [.ref (sa g 22), .int 0, .int 100]) (rest := [.int 3, .ref a14]) (wr := [(a14, .inl (g.2 0, 225, .inl f13))]) FC hKn hZ (k_X12_told l g 22 h0 a1 a2 a3 a4 a6 a14 a15 a19 a20 a23 a24 a25 a26 a27 a28 mthrown mtaped msize (u11.1 1) (u11.1 2) (u11.1 3) (u11.1 4) (u11.1 5) (u11.1 6) mgoal mgoalDays mgoalHearer mleastOrder mwordsMany mtape ((0 : Int32)) ((100 : Int32)) (by omega) (by omega) (by omega) (by omega) (by omega) (by omega) (by omega) (by omega) (by omega) (by omega)) m_yX12_told b_1151 (ci := 12) rfl rfl rfl hP hD hS hA [1, 2] [0] rfl (by decide) rfl (by decide) (by decide) rfl hl.1 rfl (Nat.le_of_ble_eq_true rfl) dX12_readFirst_63 ⟨(Nat.le_of_ble_eq_true rfl), (Nat.le_of_ble_eq_true rfl)⟩ ⟨(Nat.le_of_ble_eq_true rfl), (Nat.le_of_ble_eq_true rfl)⟩ (fun u14 H locs q15 hP hD hS => ?_)
  obtain ⟨q15_0, q15_1, q15_2, q15_3, q15_4, q15_5, q15_6, q15_7, q15_8⟩ := q15
  have hP : va_P g.1 vwCl [(a14, .inl (g.2 0, 225, .inl f13)), (h0, .inr (12, [.int mthrown, .ref a1, .ref a2, .ref a3, .ref a4, .int mtaped, .ref a6, .int msize, .int (u14.1 1), .int (u14.1 2), .int (u14.1 3), .int (u14.1 4), .int (u14.1 5), .int (u14.1 6), .ref a14, .ref a15, .int mgoal, .int mgoalDays, .int mgoalHearer, .ref a19, .ref a20, .int mleastOrder, .int mwordsMany, .ref a23, .ref a24, .ref a25, .ref a26, .ref a27, .ref a28])), (a4, .inl (g.2 1, 900, .inl mtape))] H := hP
  have hD : va_D A [(a14, .inl (g.2 0, 225, .inl f13)), (h0, .inr (12, [.int mthrown, .ref a1, .ref a2, .ref a3, .ref a4, .int mtaped, .ref a6, .int msize, .int (u14.1 1), .int (u14.1 2), .int (u14.1 3), .int (u14.1 4), .int (u14.1 5), .int (u14.1 6), .ref a14, .ref a15, .int mgoal, .int mgoalDays, .int mgoalHearer, .ref a19, .ref a20, .int mleastOrder, .int mwordsMany, .ref a23, .ref a24, .ref a25, .ref a26, .ref a27, .ref a28])), (a4, .inl (g.2 1, 900, .inl mtape))] := hD
  refine W.eq (g2 := F0 m 66 ls [.int (u14.1 0), .int 3, .ref a14]) rfl ?_
  refine va_iast hx hb hKn.1 hP hD hS 0 0 rfl rfl (by unfold vp_in; decide) dX12_readFirst_66 (fun H locs hP hD hS => ?_)
  have hP : va_P g.1 vwCl [(a14, .inl (g.2 0, 225, .inl (upd f13 ((3 : Int32).toNatClampNeg) (u14.1 0)))), (h0, .inr (12, [.int mthrown, .ref a1, .ref a2, .ref a3, .ref a4, .int mtaped, .ref a6, .int msize, .int (u14.1 1), .int (u14.1 2), .int (u14.1 3), .int (u14.1 4), .int (u14.1 5), .int (u14.1 6), .ref a14, .ref a15, .int mgoal, .int mgoalDays, .int mgoalHearer, .ref a19, .ref a20, .int mleastOrder, .int mwordsMany, .ref a23, .ref a24, .ref a25, .ref a26, .ref a27, .ref a28])), (a4, .inl (g.2 1, 900, .inl mtape))] H := hP
  have hD : va_D A [(a14, .inl (g.2 0, 225, .inl (upd f13 ((3 : Int32).toNatClampNeg) (u14.1 0)))), (h0, .inr (12, [.int mthrown, .ref a1, .ref a2, .ref a3, .ref a4, .int mtaped, .ref a6, .int msize, .int (u14.1 1), .int (u14.1 2), .int (u14.1 3), .int (u14.1 4), .int (u14.1 5), .int (u14.1 6), .ref a14, .ref a15, .int mgoal, .int mgoalDays, .int mgoalHearer, .ref a19, .ref a20, .int mleastOrder, .int mwordsMany, .ref a23, .ref a24, .ref a25, .ref a26, .ref a27, .ref a28])), (a4, .inl (g.2 1, 900, .inl mtape))] := hD
  have kc3 : (3 : Int32).toInt = 3 := by decide
  have a_f16 : wok (upd f13 ((3 : Int32).toNatClampNeg) (u14.1 0)) := (wk_free (k := 3) a_f13 (by decide) (by decide))
  generalize E_f16 : (upd f13 ((3 : Int32).toNatClampNeg) (u14.1 0) : Nat → Int32) = f16 at hP hD a_f16
  have g_f16_0 : (f16 0).toInt = (f13 0).toInt := by rw [← E_f16]; exact congrArg Int32.toInt (uo (k := 3) (by decide))
  have g_f16_2 : (f16 2).toInt = (f13 2).toInt := by rw [← E_f16]; exact congrArg Int32.toInt (uo (k := 3) (by decide))
  have g_f16_5 : (f16 5).toInt = (f13 5).toInt := by rw [← E_f16]; exact congrArg Int32.toInt (uo (k := 3) (by decide))
  have g_f16_6 : (f16 6).toInt = (f13 6).toInt := by rw [← E_f16]; exact congrArg Int32.toInt (uo (k := 3) (by decide))
  have g_f16_7 : (f16 7).toInt = (f13 7).toInt := by rw [← E_f16]; exact congrArg Int32.toInt (uo (k := 3) (by decide))
  have g_f16_8 : (f16 8).toInt = (f13 8).toInt := by rw [← E_f16]; exact congrArg Int32.toInt (uo (k := 3) (by decide))
  have g_f16_9 : (f16 9).toInt = (f13 9).toInt := by rw [← E_f16]; exact congrArg Int32.toInt (uo (k := 3) (by decide))
  refine lv_aload_n hx hb dX12_readFirst_67 rfl (lv_at hl 0 rfl) ?_
  refine g_get (C := RX12) (T := TX12) (N := 29) (ci := 12) (v := .ref a14) FC hKn hP i_X12 1 rfl rfl 14 (by decide) b_1132 rfl dX12_readFirst_68 ?_
  refine lv_iconst (v := 4) hx hb dX12_readFirst_71 (by decide) ?_
  refine lv_aload_n hx hb dX12_readFirst_72 rfl (lv_at hl 0 rfl) ?_
  refine va_ldcS hx hb hown (hZ.2.2 23 _ rfl).1 dX12_readFirst_73 ?_
  refine lv_iconst (v := 0) hx hb dX12_readFirst_75 (by decide) ?_
  refine lv_bipush (v := 100) hx hb dX12_readFirst_76 (by decide) ?_
  refine call_V (As := [.ref (sa g 23), .int 0, .int 100]) (rest := [.int 4, .ref a14]) (wr := [(a14, .inl (g.2 0, 225, .inl f16))]) FC hKn hZ (k_X12_told l g 23 h0 a1 a2 a3 a4 a6 a14 a15 a19 a20 a23 a24 a25 a26 a27 a28 mthrown mtaped msize (u14.1 1) (u14.1 2) (u14.1 3) (u14.1 4) (u14.1 5) (u14.1 6) mgoal mgoalDays mgoalHearer mleastOrder mwordsMany mtape ((0 : Int32)) ((100 : Int32)) (by omega) (by omega) (by omega) (by omega) (by omega) (by omega) (by omega) (by omega) (by omega) (by omega)) m_yX12_told b_1151 (ci := 12) rfl rfl rfl hP hD hS hA [1, 2] [0] rfl (by decide) rfl (by decide) (by decide) rfl hl.1 rfl (Nat.le_of_ble_eq_true rfl) dX12_readFirst_78 ⟨(Nat.le_of_ble_eq_true rfl), (Nat.le_of_ble_eq_true rfl)⟩ ⟨(Nat.le_of_ble_eq_true rfl), (Nat.le_of_ble_eq_true rfl)⟩ (fun u17 H locs q18 hP hD hS => ?_)
  obtain ⟨q18_0, q18_1, q18_2, q18_3, q18_4, q18_5, q18_6, q18_7, q18_8⟩ := q18
  have hP : va_P g.1 vwCl [(a14, .inl (g.2 0, 225, .inl f16)), (h0, .inr (12, [.int mthrown, .ref a1, .ref a2, .ref a3, .ref a4, .int mtaped, .ref a6, .int msize, .int (u17.1 1), .int (u17.1 2), .int (u17.1 3), .int (u17.1 4), .int (u17.1 5), .int (u17.1 6), .ref a14, .ref a15, .int mgoal, .int mgoalDays, .int mgoalHearer, .ref a19, .ref a20, .int mleastOrder, .int mwordsMany, .ref a23, .ref a24, .ref a25, .ref a26, .ref a27, .ref a28])), (a4, .inl (g.2 1, 900, .inl mtape))] H := hP
  have hD : va_D A [(a14, .inl (g.2 0, 225, .inl f16)), (h0, .inr (12, [.int mthrown, .ref a1, .ref a2, .ref a3, .ref a4, .int mtaped, .ref a6, .int msize, .int (u17.1 1), .int (u17.1 2), .int (u17.1 3), .int (u17.1 4), .int (u17.1 5), .int (u17.1 6), .ref a14, .ref a15, .int mgoal, .int mgoalDays, .int mgoalHearer, .ref a19, .ref a20, .int mleastOrder, .int mwordsMany, .ref a23, .ref a24, .ref a25, .ref a26, .ref a27, .ref a28])), (a4, .inl (g.2 1, 900, .inl mtape))] := hD
  refine W.eq (g2 := F0 m 81 ls [.int (u17.1 0), .int 4, .ref a14]) rfl ?_
  refine va_iast hx hb hKn.1 hP hD hS 0 0 rfl rfl (by unfold vp_in; decide) dX12_readFirst_81 (fun H locs hP hD hS => ?_)
  have hP : va_P g.1 vwCl [(a14, .inl (g.2 0, 225, .inl (upd f16 ((4 : Int32).toNatClampNeg) (u17.1 0)))), (h0, .inr (12, [.int mthrown, .ref a1, .ref a2, .ref a3, .ref a4, .int mtaped, .ref a6, .int msize, .int (u17.1 1), .int (u17.1 2), .int (u17.1 3), .int (u17.1 4), .int (u17.1 5), .int (u17.1 6), .ref a14, .ref a15, .int mgoal, .int mgoalDays, .int mgoalHearer, .ref a19, .ref a20, .int mleastOrder, .int mwordsMany, .ref a23, .ref a24, .ref a25, .ref a26, .ref a27, .ref a28])), (a4, .inl (g.2 1, 900, .inl mtape))] H := hP
  have hD : va_D A [(a14, .inl (g.2 0, 225, .inl (upd f16 ((4 : Int32).toNatClampNeg) (u17.1 0)))), (h0, .inr (12, [.int mthrown, .ref a1, .ref a2, .ref a3, .ref a4, .int mtaped, .ref a6, .int msize, .int (u17.1 1), .int (u17.1 2), .int (u17.1 3), .int (u17.1 4), .int (u17.1 5), .int (u17.1 6), .ref a14, .ref a15, .int mgoal, .int mgoalDays, .int mgoalHearer, .ref a19, .ref a20, .int mleastOrder, .int mwordsMany, .ref a23, .ref a24, .ref a25, .ref a26, .ref a27, .ref a28])), (a4, .inl (g.2 1, 900, .inl mtape))] := hD
  have kc4 : (4 : Int32).toInt = 4 := by decide
  have a_f19 : wok (upd f16 ((4 : Int32).toNatClampNeg) (u17.1 0)) := (wk_free (k := 4) a_f16 (by decide) (by decide))
  generalize E_f19 : (upd f16 ((4 : Int32).toNatClampNeg) (u17.1 0) : Nat → Int32) = f19 at hP hD a_f19
  have g_f19_0 : (f19 0).toInt = (f16 0).toInt := by rw [← E_f19]; exact congrArg Int32.toInt (uo (k := 4) (by decide))
  have g_f19_2 : (f19 2).toInt = (f16 2).toInt := by rw [← E_f19]; exact congrArg Int32.toInt (uo (k := 4) (by decide))
  have g_f19_5 : (f19 5).toInt = (f16 5).toInt := by rw [← E_f19]; exact congrArg Int32.toInt (uo (k := 4) (by decide))
  have g_f19_6 : (f19 6).toInt = (f16 6).toInt := by rw [← E_f19]; exact congrArg Int32.toInt (uo (k := 4) (by decide))
  have g_f19_7 : (f19 7).toInt = (f16 7).toInt := by rw [← E_f19]; exact congrArg Int32.toInt (uo (k := 4) (by decide))
  have g_f19_8 : (f19 8).toInt = (f16 8).toInt := by rw [← E_f19]; exact congrArg Int32.toInt (uo (k := 4) (by decide))
  have g_f19_9 : (f19 9).toInt = (f16 9).toInt := by rw [← E_f19]; exact congrArg Int32.toInt (uo (k := 4) (by decide))
  exact rt_v FX ((fun k => match k with | 0 => 0 | 1 => u17.1 1 | 2 => u17.1 2 | 3 => u17.1 3 | 4 => u17.1 4 | 5 => u17.1 5 | 6 => u17.1 6 | _ => 0), (fun k => match k with | 0 => f19 | _ => fun _ => 0), (fun _ => fun _ => 0)) rfl ⟨(show 0 ≤ (u17.1 1).toInt ∧ (u17.1 1).toInt ≤ 900 by omega), (show 0 ≤ (u17.1 2).toInt ∧ (u17.1 2).toInt ≤ 900 by omega), (show 0 ≤ (u17.1 3).toInt ∧ (u17.1 3).toInt ≤ 4 by omega), (show 0 ≤ (u17.1 4).toInt ∧ (u17.1 4).toInt ≤ 99999 by omega), (show 0 ≤ (u17.1 5).toInt ∧ (u17.1 5).toInt ≤ 3 by omega), a_f19, (show 5 * mat.toInt - mtoken.toInt ≤ 5 * (u17.1 1).toInt - (u17.1 3).toInt by omega), (show (u17.1 5).toInt = 0 → mfaultKind.toInt = 0 by omega), (show (u17.1 5).toInt = 0 → 1 ≤ ((f19) 0).toInt ∧ 1 ≤ ((f19) 2).toInt from (fun h9 => by have h8 : (u17.1 5).toInt = 0 := h9; show 1 ≤ (f19 0).toInt ∧ 1 ≤ (f19 2).toInt; omega))⟩ (hP.sub [1, 2, 0] rfl) (hD.sub [1, 2, 0] (by decide) rfl) hS (Nat.le_of_ble_eq_true rfl) (Nat.le_of_ble_eq_true rfl) dX12_readFirst_82
set_option maxRecDepth 100000 in
set_option maxHeartbeats 4000000 in
theorem k_X12_readHearer (l : Launch) (g : GG) (h0 : Nat) (a1 : Nat) (a2 : Nat) (a3 : Nat) (a4 : Nat) (a6 : Nat) (a14 : Nat) (a15 : Nat) (a19 : Nat) (a20 : Nat) (a23 : Nat) (a24 : Nat) (a25 : Nat) (a26 : Nat) (a27 : Nat) (a28 : Nat) (mthrown : Int32) (mtaped : Int32) (msize : Int32) (mat : Int32) (mfrom : Int32) (mtoken : Int32) (mvalue : Int32) (mfaultKind : Int32) (mfaultPlace : Int32) (mgoal : Int32) (mgoalDays : Int32) (mgoalHearer : Int32) (mleastOrder : Int32) (mwordsMany : Int32) (mtape : Nat → Int32) (mfresh : Nat → Int32) (i_mtaped : 0 ≤ mtaped.toInt ∧ mtaped.toInt ≤ 900) (i_msize : 0 ≤ msize.toInt ∧ msize.toInt ≤ 900) (i_mat : 0 ≤ mat.toInt ∧ mat.toInt ≤ 900) (i_mfrom : 0 ≤ mfrom.toInt ∧ mfrom.toInt ≤ 900) (i_mtoken : 0 ≤ mtoken.toInt ∧ mtoken.toInt ≤ 4) (i_mvalue : 0 ≤ mvalue.toInt ∧ mvalue.toInt ≤ 99999) (i_mfaultKind : 0 ≤ mfaultKind.toInt ∧ mfaultKind.toInt ≤ 3) (i_mgoalHearer : 0 ≤ mgoalHearer.toInt ∧ mgoalHearer.toInt ≤ 3) (i_mwordsMany : 0 ≤ mwordsMany.toInt ∧ mwordsMany.toInt ≤ 10) (i_mfresh : wok mfresh) (h5 : (mfresh 5).toInt ≤ 3) : Ct l g yX12_readHearer cX12_readHearer 4 none { frames := 8, cells := 0, slots := 0, locals := 174 } [.ref h0] [(h0, .inr (12, [.int mthrown, .ref a1, .ref a2, .ref a3, .ref a4, .int mtaped, .ref a6, .int msize, .int mat, .int mfrom, .int mtoken, .int mvalue, .int mfaultKind, .int mfaultPlace, .ref a14, .ref a15, .int mgoal, .int mgoalDays, .int mgoalHearer, .ref a19, .ref a20, .int mleastOrder, .int mwordsMany, .ref a23, .ref a24, .ref a25, .ref a26, .ref a27, .ref a28])), (a4, .inl (g.2 1, 900, .inl mtape)), (a14, .inl (g.2 0, 225, .inl mfresh))] (S := (Nat → Int32) × (Nat → Nat → Int32) × (Nat → Nat → Int64)) (fun _ => none) (fun u => (0 ≤ (u.1 1).toInt ∧ (u.1 1).toInt ≤ 900) ∧ (0 ≤ (u.1 2).toInt ∧ (u.1 2).toInt ≤ 900) ∧ (0 ≤ (u.1 3).toInt ∧ (u.1 3).toInt ≤ 4) ∧ (0 ≤ (u.1 4).toInt ∧ (u.1 4).toInt ≤ 99999) ∧ (0 ≤ (u.1 5).toInt ∧ (u.1 5).toInt ≤ 3) ∧ (wok (u.2.1 0)) ∧ (5 * mat.toInt - mtoken.toInt ≤ 5 * (u.1 1).toInt - (u.1 3).toInt) ∧ ((u.1 5).toInt = 0 → mfaultKind.toInt = 0) ∧ (((u.2.1 0) 0).toInt = (mfresh 0).toInt ∧ ((u.2.1 0) 2).toInt = (mfresh 2).toInt)) (fun u => [(h0, .inr (12, [.int mthrown, .ref a1, .ref a2, .ref a3, .ref a4, .int mtaped, .ref a6, .int msize, .int (u.1 1), .int (u.1 2), .int (u.1 3), .int (u.1 4), .int (u.1 5), .int (u.1 6), .ref a14, .ref a15, .int mgoal, .int mgoalDays, .int mgoalHearer, .ref a19, .ref a20, .int mleastOrder, .int mwordsMany, .ref a23, .ref a24, .ref a25, .ref a26, .ref a27, .ref a28])), (a4, .inl (g.2 1, 900, .inl mtape)), (a14, .inl (g.2 0, 225, .inl (u.2.1 0)))]) := by
  refine Ct.of (by decide) (Nat.le_of_ble_eq_true rfl) ?_
  intro p e s m below meth c A ls FX hP hD hS hl
  obtain ⟨FC, hr, hlk, hKn, hA, hnm, hZ⟩ := id FX
  have FC : CallFix p m c cX12_readHearer 4 s _ BIG RX12 := FC
  obtain ⟨hx, hb, hml, hown, hB⟩ := id FC
  have hl : lv_has ls 4 [(0, .ref h0)] := hl
  refine lv_bipush (v := 19) hx hb dX12_readHearer_0 (by decide) ?_
  refine lv_bipush (v := 9) hx hb dX12_readHearer_2 (by decide) ?_
  refine lv_aload_n hx hb dX12_readHearer_4 rfl (lv_at hl 0 rfl) ?_
  refine g_get (C := RX12) (T := TX12) (N := 29) (ci := 12) (v := .ref a14) FC hKn hP i_X12 0 rfl rfl 14 (by decide) b_1132 rfl dX12_readHearer_5 ?_
  refine lv_iconst (v := 5) hx hb dX12_readHearer_8 (by decide) ?_
  refine va_iald hx hb hKn.1 hP 2 0 rfl rfl (by unfold vp_in; decide) dX12_readHearer_9 ?_
  have kc5 : (5 : Int32).toInt = 5 := by decide
  refine lv_topi (fun z1 e_z1 => ?_)
  have t_z1 : 0 ≤ z1.toInt ∧ z1.toInt ≤ 4 := by rw [e_z1]; exact wk_5 i_mfresh
  have q_z1 : z1.toInt = (mfresh 5).toInt := by rw [e_z1]; rfl
  refine lv_imul hx hb dX12_readHearer_10 ?_
  have kc9 : (9 : Int32).toInt = 9 := by decide
  refine lv_topi (fun z2 e_z2 => ?_)
  have t_z2 : z2.toInt = 9 * z1.toInt := by rw [e_z2, fb_mulI (by rw [show (9 : Int32).toInt = 9 by decide]; omega) (by rw [show (9 : Int32).toInt = 9 by decide]; omega), show (9 : Int32).toInt = 9 by decide]
  refine lv_iadd hx hb dX12_readHearer_11 ?_
  have kc19 : (19 : Int32).toInt = 19 := by decide
  refine lv_topi (fun z3 e_z3 => ?_)
  have t_z3 : z3.toInt = ((19 : Int32)).toInt + z2.toInt := by rw [e_z3]; exact fb_addI (by omega) (by omega)
  refine lv_istore_n (lv' := [(1, .int z3), (0, .ref h0)]) hx hb dX12_readHearer_12 rfl hl (by decide) rfl (fun ls hl => ?_)
  refine lv_iconst (v := 0) hx hb dX12_readHearer_13 (by decide) ?_
  refine lv_istore_n (lv' := [(2, .int 0), (1, .int z3), (0, .ref h0)]) hx hb dX12_readHearer_14 rfl hl (by decide) rfl (fun ls hl => ?_)
  refine lv_aload_n hx hb dX12_readHearer_15 rfl (lv_at hl 2 rfl) ?_
  refine va_ldcS hx hb hown (hZ.2.2 30 _ rfl).1 dX12_readHearer_16 ?_
  refine call_V (As := [.ref (sa g 30)]) (rest := []) (wr := [(a14, .inl (g.2 0, 225, .inl mfresh))]) FC hKn hZ (k_X12_needs l g 30 h0 a1 a2 a3 a4 a6 a14 a15 a19 a20 a23 a24 a25 a26 a27 a28 mthrown mtaped msize mat mfrom mtoken mvalue mfaultKind mfaultPlace mgoal mgoalDays mgoalHearer mleastOrder mwordsMany mtape (by omega) (by omega) (by omega) (by omega) (by omega) (by omega) (by omega) (by omega) (by omega) (by omega)) m_yX12_needs b_1130 (ci := 12) rfl rfl rfl hP hD hS hA [0, 1] [2] rfl (by decide) rfl (by decide) (by decide) rfl hl.1 rfl (Nat.le_of_ble_eq_true rfl) dX12_readHearer_18 ⟨(Nat.le_of_ble_eq_true rfl), (Nat.le_of_ble_eq_true rfl)⟩ ⟨(Nat.le_of_ble_eq_true rfl), (Nat.le_of_ble_eq_true rfl)⟩ (fun u4 H locs q5 hP hD hS => ?_)
  obtain ⟨q5_0, q5_1, q5_2, q5_3, q5_4, q5_5, q5_6⟩ := q5
  have hP : va_P g.1 vwCl [(a14, .inl (g.2 0, 225, .inl mfresh)), (h0, .inr (12, [.int mthrown, .ref a1, .ref a2, .ref a3, .ref a4, .int mtaped, .ref a6, .int msize, .int (u4.1 1), .int (u4.1 2), .int (u4.1 3), .int (u4.1 4), .int (u4.1 5), .int (u4.1 6), .ref a14, .ref a15, .int mgoal, .int mgoalDays, .int mgoalHearer, .ref a19, .ref a20, .int mleastOrder, .int mwordsMany, .ref a23, .ref a24, .ref a25, .ref a26, .ref a27, .ref a28])), (a4, .inl (g.2 1, 900, .inl mtape))] H := hP
  have hD : va_D A [(a14, .inl (g.2 0, 225, .inl mfresh)), (h0, .inr (12, [.int mthrown, .ref a1, .ref a2, .ref a3, .ref a4, .int mtaped, .ref a6, .int msize, .int (u4.1 1), .int (u4.1 2), .int (u4.1 3), .int (u4.1 4), .int (u4.1 5), .int (u4.1 6), .ref a14, .ref a15, .int mgoal, .int mgoalDays, .int mgoalHearer, .ref a19, .ref a20, .int mleastOrder, .int mwordsMany, .ref a23, .ref a24, .ref a25, .ref a26, .ref a27, .ref a28])), (a4, .inl (g.2 1, 900, .inl mtape))] := hD
  refine W.eq (g2 := F0 m 21 ls []) rfl ?_
  refine lv_iconst (v := 0) hx hb dX12_readHearer_21 (by decide) ?_
  refine lv_istore_n (lv' := [(3, .int 0), (2, .int 0), (1, .int z3), (0, .ref h0)]) hx hb dX12_readHearer_22 rfl hl (by decide) rfl (fun ls hl => ?_)
  have lp744 : ∀ (n746 : Nat) (x730 : Int32) (x731 : Int32) (x732 : Nat → Int32) (x733 : Int32) (x734 : Int32) (x735 : Int32) (x736 : Int32) (x737 : Int32) (x738 : Int32) (H : Heap) (locs : List Loc) (ls : Array Slot), 0 ≤ x730.toInt ∧ x730.toInt ≤ 8 → wok x732 → 0 ≤ x733.toInt ∧ x733.toInt ≤ 900 → 0 ≤ x734.toInt ∧ x734.toInt ≤ 900 → 0 ≤ x735.toInt ∧ x735.toInt ≤ 4 → 0 ≤ x736.toInt ∧ x736.toInt ≤ 99999 → 0 ≤ x737.toInt ∧ x737.toInt ≤ 3 → 5 * mat.toInt - mtoken.toInt ≤ 5 * x733.toInt - x735.toInt → (x737.toInt = 0 → mfaultKind.toInt = 0) → (x732 0).toInt = (mfresh 0).toInt → (x732 2).toInt = (mfresh 2).toInt → (x732 5).toInt = (mfresh 5).toInt → (8 - x730.toInt).toNat < n746 → va_P g.1 vwCl [(a14, .inl (g.2 0, 225, .inl x732)), (h0, .inr (12, [.int mthrown, .ref a1, .ref a2, .ref a3, .ref a4, .int mtaped, .ref a6, .int msize, .int x733, .int x734, .int x735, .int x736, .int x737, .int x738, .ref a14, .ref a15, .int mgoal, .int mgoalDays, .int mgoalHearer, .ref a19, .ref a20, .int mleastOrder, .int mwordsMany, .ref a23, .ref a24, .ref a25, .ref a26, .ref a27, .ref a28])), (a4, .inl (g.2 1, 900, .inl mtape))] H → va_D A [(a14, .inl (g.2 0, 225, .inl x732)), (h0, .inr (12, [.int mthrown, .ref a1, .ref a2, .ref a3, .ref a4, .int mtaped, .ref a6, .int msize, .int x733, .int x734, .int x735, .int x736, .int x737, .int x738, .ref a14, .ref a15, .int mgoal, .int mgoalDays, .int mgoalHearer, .ref a19, .ref a20, .int mleastOrder, .int mwordsMany, .ref a23, .ref a24, .ref a25, .ref a26, .ref a27, .ref a28])), (a4, .inl (g.2 1, 900, .inl mtape))] → va_S A s.heap H locs → lv_has ls 4 [(3, .int x730), (2, .int x731), (1, .int z3), (0, .ref h0)] → W p l e { frames := 8, cells := 0, slots := 0, locals := 174 } s m ([.ref h0].toArray) below meth c H locs 0 0 (MQ below (QX (S := (Nat → Int32) × (Nat → Nat → Int32) × (Nat → Nat → Int64)) (fun _ => none) (fun u => (0 ≤ (u.1 1).toInt ∧ (u.1 1).toInt ≤ 900) ∧ (0 ≤ (u.1 2).toInt ∧ (u.1 2).toInt ≤ 900) ∧ (0 ≤ (u.1 3).toInt ∧ (u.1 3).toInt ≤ 4) ∧ (0 ≤ (u.1 4).toInt ∧ (u.1 4).toInt ≤ 99999) ∧ (0 ≤ (u.1 5).toInt ∧ (u.1 5).toInt ≤ 3) ∧ (wok (u.2.1 0)) ∧ (5 * mat.toInt - mtoken.toInt ≤ 5 * (u.1 1).toInt - (u.1 3).toInt) ∧ ((u.1 5).toInt = 0 → mfaultKind.toInt = 0) ∧ (((u.2.1 0) 0).toInt = (mfresh 0).toInt ∧ ((u.2.1 0) 2).toInt = (mfresh 2).toInt)) g (fun u => [(h0, .inr (12, [.int mthrown, .ref a1, .ref a2, .ref a3, .ref a4, .int mtaped, .ref a6, .int msize, .int (u.1 1), .int (u.1 2), .int (u.1 3), .int (u.1 4), .int (u.1 5), .int (u.1 6), .ref a14, .ref a15, .int mgoal, .int mgoalDays, .int mgoalHearer, .ref a19, .ref a20, .int mleastOrder, .int mwordsMany, .ref a23, .ref a24, .ref a25, .ref a26, .ref a27, .ref a28])), (a4, .inl (g.2 1, 900, .inl mtape)), (a14, .inl (g.2 0, 225, .inl (u.2.1 0)))]) A) ([.ref h0].toArray) s 0 0 A) (F0 m 23 ls []) := by
    intro n746
    induction n746 with
    | zero =>
      intro x730 x731 x732 x733 x734 x735 x736 x737 x738 H locs ls h_x730 h_x732 h_x733 h_x734 h_x735 h_x736 h_x737 hi739 hi740 hi741 hi742 hi743 hn747
      exact absurd hn747 (Nat.not_lt_zero _)
    | succ n746 ih745 =>
      intro x730 x731 x732 x733 x734 x735 x736 x737 x738 H locs ls h_x730 h_x732 h_x733 h_x734 h_x735 h_x736 h_x737 hi739 hi740 hi741 hi742 hi743 hn747 hP hD hS hl
      refine lv_iload_n hx hb dX12_readHearer_23 rfl (lv_at hl 0 rfl) ?_
      refine lv_aload_n hx hb dX12_readHearer_24 rfl (lv_at hl 3 rfl) ?_
      refine g_get (C := RX12) (T := TX12) (N := 29) (ci := 12) (v := .ref a14) FC hKn hP i_X12 1 rfl rfl 14 (by decide) b_1132 rfl dX12_readHearer_25 ?_
      refine lv_iconst (v := 0) hx hb dX12_readHearer_28 (by decide) ?_
      refine va_iald hx hb hKn.1 hP 0 0 rfl rfl (by unfold vp_in; decide) dX12_readHearer_29 ?_
      have kc0 : (0 : Int32).toInt = 0 := by decide
      refine lv_topi (fun z748 e_z748 => ?_)
      have t_z748 : 0 ≤ z748.toInt ∧ z748.toInt ≤ 8 := by rw [e_z748]; exact wk_0 h_x732
      have q_z748 : z748.toInt = (x732 0).toInt := by rw [e_z748]; rfl
      refine lv_icmp_ge (tgt := 108) hx hb dX12_readHearer_30 (by decide) (fun c749 => ?_) (fun c749 => ?_)
      · have c749 := k_le (a := z748.toInt) (b := x730.toInt) rfl rfl c749
        refine lv_aload_n hx hb dX12_readHearer_108 rfl (lv_at hl 3 rfl) ?_
        refine g_get (C := RX12) (T := TX12) (N := 29) (ci := 12) (v := .ref a14) FC hKn hP i_X12 1 rfl rfl 14 (by decide) b_1132 rfl dX12_readHearer_109 ?_
        refine lv_iload_n hx hb dX12_readHearer_112 rfl (lv_at hl 2 rfl) ?_
        refine lv_bipush (v := 8) hx hb dX12_readHearer_113 (by decide) ?_
        refine lv_iadd hx hb dX12_readHearer_115 ?_
        have kc8 : (8 : Int32).toInt = 8 := by decide
        refine lv_topi (fun z750 e_z750 => ?_)
        have t_z750 : z750.toInt = z3.toInt + ((8 : Int32)).toInt := by rw [e_z750]; exact fb_addI (by omega) (by omega)
        refine lv_aload_n hx hb dX12_readHearer_116 rfl (lv_at hl 3 rfl) ?_
        refine va_ldcS hx hb hown (hZ.2.2 31 _ rfl).1 dX12_readHearer_117 ?_
        refine call_V (As := [.ref (sa g 31)]) (rest := [.int z750, .ref a14]) (wr := [(a14, .inl (g.2 0, 225, .inl x732))]) FC hKn hZ (k_X12_is l g 31 h0 a1 a2 a3 a4 a6 a14 a15 a19 a20 a23 a24 a25 a26 a27 a28 mthrown mtaped msize x733 x734 x735 x736 x737 x738 mgoal mgoalDays mgoalHearer mleastOrder mwordsMany mtape (by omega) (by omega) (by omega) (by omega) (by omega) (by omega) (by omega) (by omega) (by omega) (by omega)) m_yX12_is b_1126 (ci := 12) rfl rfl rfl hP hD hS hA [1, 2] [0] rfl (by decide) rfl (by decide) (by decide) rfl hl.1 rfl (Nat.le_of_ble_eq_true rfl) dX12_readHearer_119 ⟨(Nat.le_of_ble_eq_true rfl), (Nat.le_of_ble_eq_true rfl)⟩ ⟨(Nat.le_of_ble_eq_true rfl), (Nat.le_of_ble_eq_true rfl)⟩ (fun u751 H locs q752 hP hD hS => ?_)
        obtain ⟨q752_0, q752_1, q752_2⟩ := q752
        have hP : va_P g.1 vwCl [(a14, .inl (g.2 0, 225, .inl x732)), (h0, .inr (12, [.int mthrown, .ref a1, .ref a2, .ref a3, .ref a4, .int mtaped, .ref a6, .int msize, .int x733, .int x734, .int x735, .int x736, .int x737, .int x738, .ref a14, .ref a15, .int mgoal, .int mgoalDays, .int mgoalHearer, .ref a19, .ref a20, .int mleastOrder, .int mwordsMany, .ref a23, .ref a24, .ref a25, .ref a26, .ref a27, .ref a28])), (a4, .inl (g.2 1, 900, .inl mtape))] H := hP
        have hD : va_D A [(a14, .inl (g.2 0, 225, .inl x732)), (h0, .inr (12, [.int mthrown, .ref a1, .ref a2, .ref a3, .ref a4, .int mtaped, .ref a6, .int msize, .int x733, .int x734, .int x735, .int x736, .int x737, .int x738, .ref a14, .ref a15, .int mgoal, .int mgoalDays, .int mgoalHearer, .ref a19, .ref a20, .int mleastOrder, .int mwordsMany, .ref a23, .ref a24, .ref a25, .ref a26, .ref a27, .ref a28])), (a4, .inl (g.2 1, 900, .inl mtape))] := hD
        refine W.eq (g2 := F0 m 122 ls [.int (u751.1 0), .int z750, .ref a14]) rfl ?_
        rw [q752_1] at q752_0
        rw [q752_1] at q752_2
        refine tp_i (v := isF x737 x735 x733 x734 mtape 31) q752_1 ?_
        refine lv_if_eq (tgt := 136) hx hb dX12_readHearer_122 (by decide) (fun c753 => ?_) (fun c753 => ?_)
        · have c753 := k_eq (a := (isF x737 x735 x733 x734 mtape 31).toInt) (b := 0) rfl (by decide) c753
          refine lv_iconst (v := 0) hx hb dX12_readHearer_136 (by decide) ?_
          refine va_iast hx hb hKn.1 hP hD hS 0 0 rfl rfl (vp_in_iff.mpr ⟨by omega, by omega⟩) dX12_readHearer_137 (fun H locs hP hD hS => ?_)
          have hP : va_P g.1 vwCl [(a14, .inl (g.2 0, 225, .inl (upd x732 (z750.toNatClampNeg) 0))), (h0, .inr (12, [.int mthrown, .ref a1, .ref a2, .ref a3, .ref a4, .int mtaped, .ref a6, .int msize, .int x733, .int x734, .int x735, .int x736, .int x737, .int x738, .ref a14, .ref a15, .int mgoal, .int mgoalDays, .int mgoalHearer, .ref a19, .ref a20, .int mleastOrder, .int mwordsMany, .ref a23, .ref a24, .ref a25, .ref a26, .ref a27, .ref a28])), (a4, .inl (g.2 1, 900, .inl mtape))] H := hP
          have hD : va_D A [(a14, .inl (g.2 0, 225, .inl (upd x732 (z750.toNatClampNeg) 0))), (h0, .inr (12, [.int mthrown, .ref a1, .ref a2, .ref a3, .ref a4, .int mtaped, .ref a6, .int msize, .int x733, .int x734, .int x735, .int x736, .int x737, .int x738, .ref a14, .ref a15, .int mgoal, .int mgoalDays, .int mgoalHearer, .ref a19, .ref a20, .int mleastOrder, .int mwordsMany, .ref a23, .ref a24, .ref a25, .ref a26, .ref a27, .ref a28])), (a4, .inl (g.2 1, 900, .inl mtape))] := hD
          have a_f754 : wok (upd x732 (z750.toNatClampNeg) 0) := (wx_g h_x732 (by omega) (by omega) (by omega))
          generalize E_f754 : (upd x732 (z750.toNatClampNeg) 0 : Nat → Int32) = f754 at hP hD a_f754
          have g_f754_0 : (f754 0).toInt = (x732 0).toInt := by rw [← E_f754, uo (by have := cln (x := z750) (by omega); omega)]
          have g_f754_2 : (f754 2).toInt = (x732 2).toInt := by rw [← E_f754, uo (by have := cln (x := z750) (by omega); omega)]
          have g_f754_5 : (f754 5).toInt = (x732 5).toInt := by rw [← E_f754, uo (by have := cln (x := z750) (by omega); omega)]
          have g_f754_6 : (f754 6).toInt = (x732 6).toInt := by rw [← E_f754, uo (by have := cln (x := z750) (by omega); omega)]
          have g_f754_7 : (f754 7).toInt = (x732 7).toInt := by rw [← E_f754, uo (by have := cln (x := z750) (by omega); omega)]
          have g_f754_8 : (f754 8).toInt = (x732 8).toInt := by rw [← E_f754, uo (by have := cln (x := z750) (by omega); omega)]
          have g_f754_9 : (f754 9).toInt = (x732 9).toInt := by rw [← E_f754, uo (by have := cln (x := z750) (by omega); omega)]
          refine lv_aload_n hx hb dX12_readHearer_138 rfl (lv_at hl 3 rfl) ?_
          refine g_get (C := RX12) (T := TX12) (N := 29) (ci := 12) (v := .ref a14) FC hKn hP i_X12 1 rfl rfl 14 (by decide) b_1132 rfl dX12_readHearer_139 ?_
          refine lv_iconst (v := 5) hx hb dX12_readHearer_142 (by decide) ?_
          refine lv_dup2_11 hx hb dX12_readHearer_143 rfl rfl ?_
          refine va_iald hx hb hKn.1 hP 0 0 rfl rfl (by unfold vp_in; decide) dX12_readHearer_144 ?_
          refine lv_topi (fun z755 e_z755 => ?_)
          have t_z755 : 0 ≤ z755.toInt ∧ z755.toInt ≤ 4 := by rw [e_z755]; exact wk_5 a_f754
          have q_z755 : z755.toInt = (f754 5).toInt := by rw [e_z755]; rfl
          refine lv_iconst (v := 1) hx hb dX12_readHearer_145 (by decide) ?_
          refine lv_iadd hx hb dX12_readHearer_146 ?_
          have kc1 : (1 : Int32).toInt = 1 := by decide
          refine lv_topi (fun z756 e_z756 => ?_)
          have t_z756 : z756.toInt = z755.toInt + ((1 : Int32)).toInt := by rw [e_z756]; exact fb_addI (by omega) (by omega)
          refine va_iast hx hb hKn.1 hP hD hS 0 0 rfl rfl (by unfold vp_in; decide) dX12_readHearer_147 (fun H locs hP hD hS => ?_)
          have hP : va_P g.1 vwCl [(a14, .inl (g.2 0, 225, .inl (upd f754 ((5 : Int32).toNatClampNeg) z756))), (h0, .inr (12, [.int mthrown, .ref a1, .ref a2, .ref a3, .ref a4, .int mtaped, .ref a6, .int msize, .int x733, .int x734, .int x735, .int x736, .int x737, .int x738, .ref a14, .ref a15, .int mgoal, .int mgoalDays, .int mgoalHearer, .ref a19, .ref a20, .int mleastOrder, .int mwordsMany, .ref a23, .ref a24, .ref a25, .ref a26, .ref a27, .ref a28])), (a4, .inl (g.2 1, 900, .inl mtape))] H := hP
          have hD : va_D A [(a14, .inl (g.2 0, 225, .inl (upd f754 ((5 : Int32).toNatClampNeg) z756))), (h0, .inr (12, [.int mthrown, .ref a1, .ref a2, .ref a3, .ref a4, .int mtaped, .ref a6, .int msize, .int x733, .int x734, .int x735, .int x736, .int x737, .int x738, .ref a14, .ref a15, .int mgoal, .int mgoalDays, .int mgoalHearer, .ref a19, .ref a20, .int mleastOrder, .int mwordsMany, .ref a23, .ref a24, .ref a25, .ref a26, .ref a27, .ref a28])), (a4, .inl (g.2 1, 900, .inl mtape))] := hD
          have a_f757 : wok (upd f754 ((5 : Int32).toNatClampNeg) z756) := (wk_uc (k := 5) a_f754 (by omega))
          generalize E_f757 : (upd f754 ((5 : Int32).toNatClampNeg) z756 : Nat → Int32) = f757 at hP hD a_f757
          have g_f757_0 : (f757 0).toInt = (f754 0).toInt := by rw [← E_f757]; exact congrArg Int32.toInt (uo (k := 5) (by decide))
          have g_f757_2 : (f757 2).toInt = (f754 2).toInt := by rw [← E_f757]; exact congrArg Int32.toInt (uo (k := 5) (by decide))
          have g_f757_5 : (f757 5).toInt = z756.toInt := by rw [← E_f757]; exact congrArg Int32.toInt (pk_us (k := 5))
          have g_f757_6 : (f757 6).toInt = (f754 6).toInt := by rw [← E_f757]; exact congrArg Int32.toInt (uo (k := 5) (by decide))
          have g_f757_7 : (f757 7).toInt = (f754 7).toInt := by rw [← E_f757]; exact congrArg Int32.toInt (uo (k := 5) (by decide))
          have g_f757_8 : (f757 8).toInt = (f754 8).toInt := by rw [← E_f757]; exact congrArg Int32.toInt (uo (k := 5) (by decide))
          have g_f757_9 : (f757 9).toInt = (f754 9).toInt := by rw [← E_f757]; exact congrArg Int32.toInt (uo (k := 5) (by decide))
          exact rt_v FX ((fun k => match k with | 0 => 0 | 1 => x733 | 2 => x734 | 3 => x735 | 4 => x736 | 5 => x737 | 6 => x738 | _ => 0), (fun k => match k with | 0 => f757 | _ => fun _ => 0), (fun _ => fun _ => 0)) rfl ⟨(show 0 ≤ x733.toInt ∧ x733.toInt ≤ 900 by omega), (show 0 ≤ x734.toInt ∧ x734.toInt ≤ 900 by omega), (show 0 ≤ x735.toInt ∧ x735.toInt ≤ 4 by omega), (show 0 ≤ x736.toInt ∧ x736.toInt ≤ 99999 by omega), (show 0 ≤ x737.toInt ∧ x737.toInt ≤ 3 by omega), a_f757, (show 5 * mat.toInt - mtoken.toInt ≤ 5 * (x733).toInt - (x735).toInt by omega), (show (x737).toInt = 0 → mfaultKind.toInt = 0 by omega), (show ((f757) 0).toInt = (mfresh 0).toInt ∧ ((f757) 2).toInt = (mfresh 2).toInt from (show (f757 0).toInt = (mfresh 0).toInt ∧ (f757 2).toInt = (mfresh 2).toInt by omega))⟩ (hP.sub [1, 2, 0] rfl) (hD.sub [1, 2, 0] (by decide) rfl) hS (Nat.le_of_ble_eq_true rfl) (Nat.le_of_ble_eq_true rfl) dX12_readHearer_148
        · have c753 := k_ne (a := (isF x737 x735 x733 x734 mtape 31).toInt) (b := 0) rfl (by decide) c753
          refine lv_aload_n hx hb dX12_readHearer_125 rfl (lv_at hl 3 rfl) ?_
          refine va_ldcS hx hb hown (hZ.2.2 31 _ rfl).1 dX12_readHearer_126 ?_
          refine lv_iconst (v := 1) hx hb dX12_readHearer_128 (by decide) ?_
          refine lv_iconst (v := 5) hx hb dX12_readHearer_129 (by decide) ?_
          have kc1 : (1 : Int32).toInt = 1 := by decide
          refine call_V (As := [.ref (sa g 31), .int 1, .int 5]) (rest := [.int z750, .ref a14]) (wr := [(a14, .inl (g.2 0, 225, .inl x732))]) FC hKn hZ (k_X12_told l g 31 h0 a1 a2 a3 a4 a6 a14 a15 a19 a20 a23 a24 a25 a26 a27 a28 mthrown mtaped msize x733 x734 x735 x736 x737 x738 mgoal mgoalDays mgoalHearer mleastOrder mwordsMany mtape ((1 : Int32)) ((5 : Int32)) (by omega) (by omega) (by omega) (by omega) (by omega) (by omega) (by omega) (by omega) (by omega) (by omega)) m_yX12_told b_1151 (ci := 12) rfl rfl rfl hP hD hS hA [1, 2] [0] rfl (by decide) rfl (by decide) (by decide) rfl hl.1 rfl (Nat.le_of_ble_eq_true rfl) dX12_readHearer_130 ⟨(Nat.le_of_ble_eq_true rfl), (Nat.le_of_ble_eq_true rfl)⟩ ⟨(Nat.le_of_ble_eq_true rfl), (Nat.le_of_ble_eq_true rfl)⟩ (fun u758 H locs q759 hP hD hS => ?_)
          obtain ⟨q759_0, q759_1, q759_2, q759_3, q759_4, q759_5, q759_6, q759_7, q759_8⟩ := q759
          have hP : va_P g.1 vwCl [(a14, .inl (g.2 0, 225, .inl x732)), (h0, .inr (12, [.int mthrown, .ref a1, .ref a2, .ref a3, .ref a4, .int mtaped, .ref a6, .int msize, .int (u758.1 1), .int (u758.1 2), .int (u758.1 3), .int (u758.1 4), .int (u758.1 5), .int (u758.1 6), .ref a14, .ref a15, .int mgoal, .int mgoalDays, .int mgoalHearer, .ref a19, .ref a20, .int mleastOrder, .int mwordsMany, .ref a23, .ref a24, .ref a25, .ref a26, .ref a27, .ref a28])), (a4, .inl (g.2 1, 900, .inl mtape))] H := hP
          have hD : va_D A [(a14, .inl (g.2 0, 225, .inl x732)), (h0, .inr (12, [.int mthrown, .ref a1, .ref a2, .ref a3, .ref a4, .int mtaped, .ref a6, .int msize, .int (u758.1 1), .int (u758.1 2), .int (u758.1 3), .int (u758.1 4), .int (u758.1 5), .int (u758.1 6), .ref a14, .ref a15, .int mgoal, .int mgoalDays, .int mgoalHearer, .ref a19, .ref a20, .int mleastOrder, .int mwordsMany, .ref a23, .ref a24, .ref a25, .ref a26, .ref a27, .ref a28])), (a4, .inl (g.2 1, 900, .inl mtape))] := hD
          refine W.eq (g2 := F0 m 133 ls [.int (u758.1 0), .int z750, .ref a14]) rfl ?_
          refine lv_goto (tgt := 137) hx hb dX12_readHearer_133 (by decide) ?_
          refine va_iast hx hb hKn.1 hP hD hS 0 0 rfl rfl (vp_in_iff.mpr ⟨by omega, by omega⟩) dX12_readHearer_137 (fun H locs hP hD hS => ?_)
          have hP : va_P g.1 vwCl [(a14, .inl (g.2 0, 225, .inl (upd x732 (z750.toNatClampNeg) (u758.1 0)))), (h0, .inr (12, [.int mthrown, .ref a1, .ref a2, .ref a3, .ref a4, .int mtaped, .ref a6, .int msize, .int (u758.1 1), .int (u758.1 2), .int (u758.1 3), .int (u758.1 4), .int (u758.1 5), .int (u758.1 6), .ref a14, .ref a15, .int mgoal, .int mgoalDays, .int mgoalHearer, .ref a19, .ref a20, .int mleastOrder, .int mwordsMany, .ref a23, .ref a24, .ref a25, .ref a26, .ref a27, .ref a28])), (a4, .inl (g.2 1, 900, .inl mtape))] H := hP
          have hD : va_D A [(a14, .inl (g.2 0, 225, .inl (upd x732 (z750.toNatClampNeg) (u758.1 0)))), (h0, .inr (12, [.int mthrown, .ref a1, .ref a2, .ref a3, .ref a4, .int mtaped, .ref a6, .int msize, .int (u758.1 1), .int (u758.1 2), .int (u758.1 3), .int (u758.1 4), .int (u758.1 5), .int (u758.1 6), .ref a14, .ref a15, .int mgoal, .int mgoalDays, .int mgoalHearer, .ref a19, .ref a20, .int mleastOrder, .int mwordsMany, .ref a23, .ref a24, .ref a25, .ref a26, .ref a27, .ref a28])), (a4, .inl (g.2 1, 900, .inl mtape))] := hD
          have a_f760 : wok (upd x732 (z750.toNatClampNeg) (u758.1 0)) := (wx_g h_x732 (by omega) (by omega) (by omega))
          generalize E_f760 : (upd x732 (z750.toNatClampNeg) (u758.1 0) : Nat → Int32) = f760 at hP hD a_f760
          have g_f760_0 : (f760 0).toInt = (x732 0).toInt := by rw [← E_f760, uo (by have := cln (x := z750) (by omega); omega)]
          have g_f760_2 : (f760 2).toInt = (x732 2).toInt := by rw [← E_f760, uo (by have := cln (x := z750) (by omega); omega)]
          have g_f760_5 : (f760 5).toInt = (x732 5).toInt := by rw [← E_f760, uo (by have := cln (x := z750) (by omega); omega)]
          have g_f760_6 : (f760 6).toInt = (x732 6).toInt := by rw [← E_f760, uo (by have := cln (x := z750) (by omega); omega)]
          have g_f760_7 : (f760 7).toInt = (x732 7).toInt := by rw [← E_f760, uo (by have := cln (x := z750) (by omega); omega)]
          have g_f760_8 : (f760 8).toInt = (x732 8).toInt := by rw [← E_f760, uo (by have := cln (x := z750) (by omega); omega)]
          have g_f760_9 : (f760 9).toInt = (x732 9).toInt := by rw [← E_f760, uo (by have := cln (x := z750) (by omega); omega)]
          refine lv_aload_n hx hb dX12_readHearer_138 rfl (lv_at hl 3 rfl) ?_
          refine g_get (C := RX12) (T := TX12) (N := 29) (ci := 12) (v := .ref a14) FC hKn hP i_X12 1 rfl rfl 14 (by decide) b_1132 rfl dX12_readHearer_139 ?_
          refine lv_iconst (v := 5) hx hb dX12_readHearer_142 (by decide) ?_
          refine lv_dup2_11 hx hb dX12_readHearer_143 rfl rfl ?_
          refine va_iald hx hb hKn.1 hP 0 0 rfl rfl (by unfold vp_in; decide) dX12_readHearer_144 ?_
          refine lv_topi (fun z761 e_z761 => ?_)
          have t_z761 : 0 ≤ z761.toInt ∧ z761.toInt ≤ 4 := by rw [e_z761]; exact wk_5 a_f760
          have q_z761 : z761.toInt = (f760 5).toInt := by rw [e_z761]; rfl
          refine lv_iconst (v := 1) hx hb dX12_readHearer_145 (by decide) ?_
          refine lv_iadd hx hb dX12_readHearer_146 ?_
          refine lv_topi (fun z762 e_z762 => ?_)
          have t_z762 : z762.toInt = z761.toInt + ((1 : Int32)).toInt := by rw [e_z762]; exact fb_addI (by omega) (by omega)
          refine va_iast hx hb hKn.1 hP hD hS 0 0 rfl rfl (by unfold vp_in; decide) dX12_readHearer_147 (fun H locs hP hD hS => ?_)
          have hP : va_P g.1 vwCl [(a14, .inl (g.2 0, 225, .inl (upd f760 ((5 : Int32).toNatClampNeg) z762))), (h0, .inr (12, [.int mthrown, .ref a1, .ref a2, .ref a3, .ref a4, .int mtaped, .ref a6, .int msize, .int (u758.1 1), .int (u758.1 2), .int (u758.1 3), .int (u758.1 4), .int (u758.1 5), .int (u758.1 6), .ref a14, .ref a15, .int mgoal, .int mgoalDays, .int mgoalHearer, .ref a19, .ref a20, .int mleastOrder, .int mwordsMany, .ref a23, .ref a24, .ref a25, .ref a26, .ref a27, .ref a28])), (a4, .inl (g.2 1, 900, .inl mtape))] H := hP
          have hD : va_D A [(a14, .inl (g.2 0, 225, .inl (upd f760 ((5 : Int32).toNatClampNeg) z762))), (h0, .inr (12, [.int mthrown, .ref a1, .ref a2, .ref a3, .ref a4, .int mtaped, .ref a6, .int msize, .int (u758.1 1), .int (u758.1 2), .int (u758.1 3), .int (u758.1 4), .int (u758.1 5), .int (u758.1 6), .ref a14, .ref a15, .int mgoal, .int mgoalDays, .int mgoalHearer, .ref a19, .ref a20, .int mleastOrder, .int mwordsMany, .ref a23, .ref a24, .ref a25, .ref a26, .ref a27, .ref a28])), (a4, .inl (g.2 1, 900, .inl mtape))] := hD
          have a_f763 : wok (upd f760 ((5 : Int32).toNatClampNeg) z762) := (wk_uc (k := 5) a_f760 (by omega))
          generalize E_f763 : (upd f760 ((5 : Int32).toNatClampNeg) z762 : Nat → Int32) = f763 at hP hD a_f763
          have g_f763_0 : (f763 0).toInt = (f760 0).toInt := by rw [← E_f763]; exact congrArg Int32.toInt (uo (k := 5) (by decide))
          have g_f763_2 : (f763 2).toInt = (f760 2).toInt := by rw [← E_f763]; exact congrArg Int32.toInt (uo (k := 5) (by decide))
          have g_f763_5 : (f763 5).toInt = z762.toInt := by rw [← E_f763]; exact congrArg Int32.toInt (pk_us (k := 5))
          have g_f763_6 : (f763 6).toInt = (f760 6).toInt := by rw [← E_f763]; exact congrArg Int32.toInt (uo (k := 5) (by decide))
          have g_f763_7 : (f763 7).toInt = (f760 7).toInt := by rw [← E_f763]; exact congrArg Int32.toInt (uo (k := 5) (by decide))
          have g_f763_8 : (f763 8).toInt = (f760 8).toInt := by rw [← E_f763]; exact congrArg Int32.toInt (uo (k := 5) (by decide))
          have g_f763_9 : (f763 9).toInt = (f760 9).toInt := by rw [← E_f763]; exact congrArg Int32.toInt (uo (k := 5) (by decide))
          exact rt_v FX ((fun k => match k with | 0 => 0 | 1 => u758.1 1 | 2 => u758.1 2 | 3 => u758.1 3 | 4 => u758.1 4 | 5 => u758.1 5 | 6 => u758.1 6 | _ => 0), (fun k => match k with | 0 => f763 | _ => fun _ => 0), (fun _ => fun _ => 0)) rfl ⟨(show 0 ≤ (u758.1 1).toInt ∧ (u758.1 1).toInt ≤ 900 by omega), (show 0 ≤ (u758.1 2).toInt ∧ (u758.1 2).toInt ≤ 900 by omega), (show 0 ≤ (u758.1 3).toInt ∧ (u758.1 3).toInt ≤ 4 by omega), (show 0 ≤ (u758.1 4).toInt ∧ (u758.1 4).toInt ≤ 99999 by omega), (show 0 ≤ (u758.1 5).toInt ∧ (u758.1 5).toInt ≤ 3 by omega), a_f763, (show 5 * mat.toInt - mtoken.toInt ≤ 5 * (u758.1 1).toInt - (u758.1 3).toInt by omega), (show (u758.1 5).toInt = 0 → mfaultKind.toInt = 0 by omega), (show ((f763) 0).toInt = (mfresh 0).toInt ∧ ((f763) 2).toInt = (mfresh 2).toInt from (show (f763 0).toInt = (mfresh 0).toInt ∧ (f763 2).toInt = (mfresh 2).toInt by omega))⟩ (hP.sub [1, 2, 0] rfl) (hD.sub [1, 2, 0] (by decide) rfl) hS (Nat.le_of_ble_eq_true rfl) (Nat.le_of_ble_eq_true rfl) dX12_readHearer_148
      · have c749 := k_nle (a := z748.toInt) (b := x730.toInt) rfl rfl c749
        refine lv_iload_n hx hb dX12_readHearer_33 rfl (lv_at hl 0 rfl) ?_
        refine lv_aload_n hx hb dX12_readHearer_34 rfl (lv_at hl 3 rfl) ?_
        refine g_get (C := RX12) (T := TX12) (N := 29) (ci := 12) (v := .ref a14) FC hKn hP i_X12 1 rfl rfl 14 (by decide) b_1132 rfl dX12_readHearer_35 ?_
        refine lv_iconst (v := 0) hx hb dX12_readHearer_38 (by decide) ?_
        refine va_iald hx hb hKn.1 hP 0 0 rfl rfl (by unfold vp_in; decide) dX12_readHearer_39 ?_
        refine tp_i (v := z748) e_z748.symm ?_
        refine lv_iconst (v := 1) hx hb dX12_readHearer_40 (by decide) ?_
        refine lv_isub hx hb dX12_readHearer_41 ?_
        have kc1 : (1 : Int32).toInt = 1 := by decide
        refine lv_topi (fun z764 e_z764 => ?_)
        have t_z764 : z764.toInt = z748.toInt - ((1 : Int32)).toInt := by rw [e_z764]; exact fb_subI (by omega) (by omega)
        refine lv_icmp_ne (tgt := 76) hx hb dX12_readHearer_42 (by decide) (fun c765 => ?_) (fun c765 => ?_)
        · have c765 := k_ne (a := x730.toInt) (b := z764.toInt) rfl rfl c765
          refine lv_aload_n hx hb dX12_readHearer_76 rfl (lv_at hl 3 rfl) ?_
          refine g_get (C := RX12) (T := TX12) (N := 29) (ci := 12) (v := .ref a14) FC hKn hP i_X12 1 rfl rfl 14 (by decide) b_1132 rfl dX12_readHearer_77 ?_
          refine lv_iload_n hx hb dX12_readHearer_80 rfl (lv_at hl 2 rfl) ?_
          refine lv_iload_n hx hb dX12_readHearer_81 rfl (lv_at hl 0 rfl) ?_
          refine lv_iadd hx hb dX12_readHearer_82 ?_
          refine lv_topi (fun z766 e_z766 => ?_)
          have t_z766 : z766.toInt = z3.toInt + x730.toInt := by rw [e_z766]; exact fb_addI (by omega) (by omega)
          refine lv_aload_n hx hb dX12_readHearer_83 rfl (lv_at hl 3 rfl) ?_
          refine lv_iconst (v := 0) hx hb dX12_readHearer_84 (by decide) ?_
          refine lv_bipush (v := 20) hx hb dX12_readHearer_85 (by decide) ?_
          have kc20 : (20 : Int32).toInt = 20 := by decide
          refine call_V (As := [.int 0, .int 20]) (rest := [.int z766, .ref a14]) (wr := [(a14, .inl (g.2 0, 225, .inl x732))]) FC hKn hZ (k_X12_number l g h0 a1 a2 a3 a4 a6 a14 a15 a19 a20 a23 a24 a25 a26 a27 a28 mthrown mtaped msize x733 x734 x735 x736 x737 x738 mgoal mgoalDays mgoalHearer mleastOrder mwordsMany mtape ((0 : Int32)) ((20 : Int32)) (by omega) (by omega) (by omega) (by omega) (by omega) (by omega) (by omega) (by omega) (by omega)) m_yX12_number b_1131 (ci := 12) rfl rfl rfl hP hD hS hA [1, 2] [0] rfl (by decide) rfl (by decide) (by decide) rfl hl.1 rfl (Nat.le_of_ble_eq_true rfl) dX12_readHearer_87 ⟨(Nat.le_of_ble_eq_true rfl), (Nat.le_of_ble_eq_true rfl)⟩ ⟨(Nat.le_of_ble_eq_true rfl), (Nat.le_of_ble_eq_true rfl)⟩ (fun u767 H locs q768 hP hD hS => ?_)
          obtain ⟨q768_0, q768_1, q768_2, q768_3, q768_4, q768_5, q768_6, q768_7, q768_8, q768_9⟩ := q768
          have hP : va_P g.1 vwCl [(a14, .inl (g.2 0, 225, .inl x732)), (h0, .inr (12, [.int mthrown, .ref a1, .ref a2, .ref a3, .ref a4, .int mtaped, .ref a6, .int msize, .int (u767.1 1), .int (u767.1 2), .int (u767.1 3), .int (u767.1 4), .int (u767.1 5), .int (u767.1 6), .ref a14, .ref a15, .int mgoal, .int mgoalDays, .int mgoalHearer, .ref a19, .ref a20, .int mleastOrder, .int mwordsMany, .ref a23, .ref a24, .ref a25, .ref a26, .ref a27, .ref a28])), (a4, .inl (g.2 1, 900, .inl mtape))] H := hP
          have hD : va_D A [(a14, .inl (g.2 0, 225, .inl x732)), (h0, .inr (12, [.int mthrown, .ref a1, .ref a2, .ref a3, .ref a4, .int mtaped, .ref a6, .int msize, .int (u767.1 1), .int (u767.1 2), .int (u767.1 3), .int (u767.1 4), .int (u767.1 5), .int (u767.1 6), .ref a14, .ref a15, .int mgoal, .int mgoalDays, .int mgoalHearer, .ref a19, .ref a20, .int mleastOrder, .int mwordsMany, .ref a23, .ref a24, .ref a25, .ref a26, .ref a27, .ref a28])), (a4, .inl (g.2 1, 900, .inl mtape))] := hD
          refine W.eq (g2 := F0 m 90 ls [.int (u767.1 0), .int z766, .ref a14]) rfl ?_
          refine va_iast hx hb hKn.1 hP hD hS 0 0 rfl rfl (vp_in_iff.mpr ⟨by omega, by omega⟩) dX12_readHearer_90 (fun H locs hP hD hS => ?_)
          have hP : va_P g.1 vwCl [(a14, .inl (g.2 0, 225, .inl (upd x732 (z766.toNatClampNeg) (u767.1 0)))), (h0, .inr (12, [.int mthrown, .ref a1, .ref a2, .ref a3, .ref a4, .int mtaped, .ref a6, .int msize, .int (u767.1 1), .int (u767.1 2), .int (u767.1 3), .int (u767.1 4), .int (u767.1 5), .int (u767.1 6), .ref a14, .ref a15, .int mgoal, .int mgoalDays, .int mgoalHearer, .ref a19, .ref a20, .int mleastOrder, .int mwordsMany, .ref a23, .ref a24, .ref a25, .ref a26, .ref a27, .ref a28])), (a4, .inl (g.2 1, 900, .inl mtape))] H := hP
          have hD : va_D A [(a14, .inl (g.2 0, 225, .inl (upd x732 (z766.toNatClampNeg) (u767.1 0)))), (h0, .inr (12, [.int mthrown, .ref a1, .ref a2, .ref a3, .ref a4, .int mtaped, .ref a6, .int msize, .int (u767.1 1), .int (u767.1 2), .int (u767.1 3), .int (u767.1 4), .int (u767.1 5), .int (u767.1 6), .ref a14, .ref a15, .int mgoal, .int mgoalDays, .int mgoalHearer, .ref a19, .ref a20, .int mleastOrder, .int mwordsMany, .ref a23, .ref a24, .ref a25, .ref a26, .ref a27, .ref a28])), (a4, .inl (g.2 1, 900, .inl mtape))] := hD
          have a_f769 : wok (upd x732 (z766.toNatClampNeg) (u767.1 0)) := (wx_g h_x732 (by omega) (by omega) (by omega))
          generalize E_f769 : (upd x732 (z766.toNatClampNeg) (u767.1 0) : Nat → Int32) = f769 at hP hD a_f769
          have g_f769_0 : (f769 0).toInt = (x732 0).toInt := by rw [← E_f769, uo (by have := cln (x := z766) (by omega); omega)]
          have g_f769_2 : (f769 2).toInt = (x732 2).toInt := by rw [← E_f769, uo (by have := cln (x := z766) (by omega); omega)]
          have g_f769_5 : (f769 5).toInt = (x732 5).toInt := by rw [← E_f769, uo (by have := cln (x := z766) (by omega); omega)]
          have g_f769_6 : (f769 6).toInt = (x732 6).toInt := by rw [← E_f769, uo (by have := cln (x := z766) (by omega); omega)]
          have g_f769_7 : (f769 7).toInt = (x732 7).toInt := by rw [← E_f769, uo (by have := cln (x := z766) (by omega); omega)]
          have g_f769_8 : (f769 8).toInt = (x732 8).toInt := by rw [← E_f769, uo (by have := cln (x := z766) (by omega); omega)]
          have g_f769_9 : (f769 9).toInt = (x732 9).toInt := by rw [← E_f769, uo (by have := cln (x := z766) (by omega); omega)]
          refine lv_iload_n hx hb dX12_readHearer_91 rfl (lv_at hl 1 rfl) ?_
          refine lv_aload_n hx hb dX12_readHearer_92 rfl (lv_at hl 3 rfl) ?_
          refine g_get (C := RX12) (T := TX12) (N := 29) (ci := 12) (v := .ref a14) FC hKn hP i_X12 1 rfl rfl 14 (by decide) b_1132 rfl dX12_readHearer_93 ?_
          refine lv_iload_n hx hb dX12_readHearer_96 rfl (lv_at hl 2 rfl) ?_
          refine lv_iload_n hx hb dX12_readHearer_97 rfl (lv_at hl 0 rfl) ?_
          refine lv_iadd hx hb dX12_readHearer_98 ?_
          refine lv_topi (fun z770 e_z770 => ?_)
          have t_z770 : z770.toInt = z3.toInt + x730.toInt := by rw [e_z770]; exact fb_addI (by omega) (by omega)
          refine va_iald hx hb hKn.1 hP 0 0 rfl rfl (vp_in_iff.mpr ⟨by omega, by omega⟩) dX12_readHearer_99 ?_
          refine lv_topi (fun z771 e_z771 => ?_)
          have t_z771 : 0 ≤ z771.toInt ∧ z771.toInt ≤ 99 := by rw [e_z771]; exact wk_g a_f769 (by omega) (by omega)
          have q_z771 : z771.toInt = (f769 z770.toNatClampNeg).toInt := by rw [e_z771]
          refine lv_iadd hx hb dX12_readHearer_100 ?_
          refine lv_topi (fun z772 e_z772 => ?_)
          refine lv_istore_n (lv' := [(2, .int z772), (3, .int x730), (1, .int z3), (0, .ref h0)]) hx hb dX12_readHearer_101 rfl hl (by decide) rfl (fun ls hl => ?_)
          obtain ⟨z773, e_z773⟩ : ∃ y : Int32, y = x730 + 1 := ⟨_, rfl⟩
          have t_z773 : z773.toInt = x730.toInt + 1 := by rw [e_z773]; exact addk (by decide) (by omega) (by omega)
          refine lv_iinc (v := z773) (lv' := [(3, .int z773), (2, .int z772), (1, .int z3), (0, .ref h0)]) hx hb dX12_readHearer_102 hl (k := 1) rfl (by rw [e_z773]; rfl) (by decide) rfl (fun ls hl => ?_)
          refine lv_goto (tgt := 23) hx hb dX12_readHearer_105 (by decide) ?_
          exact ih745 z773 z772 f769 (u767.1 1) (u767.1 2) (u767.1 3) (u767.1 4) (u767.1 5) (u767.1 6) _ _ ls (by omega) a_f769 (by omega) (by omega) (by omega) (by omega) (by omega) (by omega) (by omega) (by omega) (by omega) (by omega) (by omega) hP hD hS (lv_sub hl [0, 1, 2, 3] rfl)
        · have c765 := k_eq (a := x730.toInt) (b := z764.toInt) rfl rfl c765
          refine lv_iload_n hx hb dX12_readHearer_45 rfl (lv_at hl 1 rfl) ?_
          refine lv_if_ne (tgt := 76) hx hb dX12_readHearer_46 (by decide) (fun c774 => ?_) (fun c774 => ?_)
          · have c774 := k_ne (a := x731.toInt) (b := 0) rfl (by decide) c774
            refine lv_aload_n hx hb dX12_readHearer_76 rfl (lv_at hl 3 rfl) ?_
            refine g_get (C := RX12) (T := TX12) (N := 29) (ci := 12) (v := .ref a14) FC hKn hP i_X12 1 rfl rfl 14 (by decide) b_1132 rfl dX12_readHearer_77 ?_
            refine lv_iload_n hx hb dX12_readHearer_80 rfl (lv_at hl 2 rfl) ?_
            refine lv_iload_n hx hb dX12_readHearer_81 rfl (lv_at hl 0 rfl) ?_
            refine lv_iadd hx hb dX12_readHearer_82 ?_
            refine lv_topi (fun z775 e_z775 => ?_)
            have t_z775 : z775.toInt = z3.toInt + x730.toInt := by rw [e_z775]; exact fb_addI (by omega) (by omega)
            refine lv_aload_n hx hb dX12_readHearer_83 rfl (lv_at hl 3 rfl) ?_
            refine lv_iconst (v := 0) hx hb dX12_readHearer_84 (by decide) ?_
            refine lv_bipush (v := 20) hx hb dX12_readHearer_85 (by decide) ?_
            have kc20 : (20 : Int32).toInt = 20 := by decide
            refine call_V (As := [.int 0, .int 20]) (rest := [.int z775, .ref a14]) (wr := [(a14, .inl (g.2 0, 225, .inl x732))]) FC hKn hZ (k_X12_number l g h0 a1 a2 a3 a4 a6 a14 a15 a19 a20 a23 a24 a25 a26 a27 a28 mthrown mtaped msize x733 x734 x735 x736 x737 x738 mgoal mgoalDays mgoalHearer mleastOrder mwordsMany mtape ((0 : Int32)) ((20 : Int32)) (by omega) (by omega) (by omega) (by omega) (by omega) (by omega) (by omega) (by omega) (by omega)) m_yX12_number b_1131 (ci := 12) rfl rfl rfl hP hD hS hA [1, 2] [0] rfl (by decide) rfl (by decide) (by decide) rfl hl.1 rfl (Nat.le_of_ble_eq_true rfl) dX12_readHearer_87 ⟨(Nat.le_of_ble_eq_true rfl), (Nat.le_of_ble_eq_true rfl)⟩ ⟨(Nat.le_of_ble_eq_true rfl), (Nat.le_of_ble_eq_true rfl)⟩ (fun u776 H locs q777 hP hD hS => ?_)
            obtain ⟨q777_0, q777_1, q777_2, q777_3, q777_4, q777_5, q777_6, q777_7, q777_8, q777_9⟩ := q777
            have hP : va_P g.1 vwCl [(a14, .inl (g.2 0, 225, .inl x732)), (h0, .inr (12, [.int mthrown, .ref a1, .ref a2, .ref a3, .ref a4, .int mtaped, .ref a6, .int msize, .int (u776.1 1), .int (u776.1 2), .int (u776.1 3), .int (u776.1 4), .int (u776.1 5), .int (u776.1 6), .ref a14, .ref a15, .int mgoal, .int mgoalDays, .int mgoalHearer, .ref a19, .ref a20, .int mleastOrder, .int mwordsMany, .ref a23, .ref a24, .ref a25, .ref a26, .ref a27, .ref a28])), (a4, .inl (g.2 1, 900, .inl mtape))] H := hP
            have hD : va_D A [(a14, .inl (g.2 0, 225, .inl x732)), (h0, .inr (12, [.int mthrown, .ref a1, .ref a2, .ref a3, .ref a4, .int mtaped, .ref a6, .int msize, .int (u776.1 1), .int (u776.1 2), .int (u776.1 3), .int (u776.1 4), .int (u776.1 5), .int (u776.1 6), .ref a14, .ref a15, .int mgoal, .int mgoalDays, .int mgoalHearer, .ref a19, .ref a20, .int mleastOrder, .int mwordsMany, .ref a23, .ref a24, .ref a25, .ref a26, .ref a27, .ref a28])), (a4, .inl (g.2 1, 900, .inl mtape))] := hD
            refine W.eq (g2 := F0 m 90 ls [.int (u776.1 0), .int z775, .ref a14]) rfl ?_
            refine va_iast hx hb hKn.1 hP hD hS 0 0 rfl rfl (vp_in_iff.mpr ⟨by omega, by omega⟩) dX12_readHearer_90 (fun H locs hP hD hS => ?_)
            have hP : va_P g.1 vwCl [(a14, .inl (g.2 0, 225, .inl (upd x732 (z775.toNatClampNeg) (u776.1 0)))), (h0, .inr (12, [.int mthrown, .ref a1, .ref a2, .ref a3, .ref a4, .int mtaped, .ref a6, .int msize, .int (u776.1 1), .int (u776.1 2), .int (u776.1 3), .int (u776.1 4), .int (u776.1 5), .int (u776.1 6), .ref a14, .ref a15, .int mgoal, .int mgoalDays, .int mgoalHearer, .ref a19, .ref a20, .int mleastOrder, .int mwordsMany, .ref a23, .ref a24, .ref a25, .ref a26, .ref a27, .ref a28])), (a4, .inl (g.2 1, 900, .inl mtape))] H := hP
            have hD : va_D A [(a14, .inl (g.2 0, 225, .inl (upd x732 (z775.toNatClampNeg) (u776.1 0)))), (h0, .inr (12, [.int mthrown, .ref a1, .ref a2, .ref a3, .ref a4, .int mtaped, .ref a6, .int msize, .int (u776.1 1), .int (u776.1 2), .int (u776.1 3), .int (u776.1 4), .int (u776.1 5), .int (u776.1 6), .ref a14, .ref a15, .int mgoal, .int mgoalDays, .int mgoalHearer, .ref a19, .ref a20, .int mleastOrder, .int mwordsMany, .ref a23, .ref a24, .ref a25, .ref a26, .ref a27, .ref a28])), (a4, .inl (g.2 1, 900, .inl mtape))] := hD
            have a_f778 : wok (upd x732 (z775.toNatClampNeg) (u776.1 0)) := (wx_g h_x732 (by omega) (by omega) (by omega))
            generalize E_f778 : (upd x732 (z775.toNatClampNeg) (u776.1 0) : Nat → Int32) = f778 at hP hD a_f778
            have g_f778_0 : (f778 0).toInt = (x732 0).toInt := by rw [← E_f778, uo (by have := cln (x := z775) (by omega); omega)]
            have g_f778_2 : (f778 2).toInt = (x732 2).toInt := by rw [← E_f778, uo (by have := cln (x := z775) (by omega); omega)]
            have g_f778_5 : (f778 5).toInt = (x732 5).toInt := by rw [← E_f778, uo (by have := cln (x := z775) (by omega); omega)]
            have g_f778_6 : (f778 6).toInt = (x732 6).toInt := by rw [← E_f778, uo (by have := cln (x := z775) (by omega); omega)]
            have g_f778_7 : (f778 7).toInt = (x732 7).toInt := by rw [← E_f778, uo (by have := cln (x := z775) (by omega); omega)]
            have g_f778_8 : (f778 8).toInt = (x732 8).toInt := by rw [← E_f778, uo (by have := cln (x := z775) (by omega); omega)]
            have g_f778_9 : (f778 9).toInt = (x732 9).toInt := by rw [← E_f778, uo (by have := cln (x := z775) (by omega); omega)]
            refine lv_iload_n hx hb dX12_readHearer_91 rfl (lv_at hl 1 rfl) ?_
            refine lv_aload_n hx hb dX12_readHearer_92 rfl (lv_at hl 3 rfl) ?_
            refine g_get (C := RX12) (T := TX12) (N := 29) (ci := 12) (v := .ref a14) FC hKn hP i_X12 1 rfl rfl 14 (by decide) b_1132 rfl dX12_readHearer_93 ?_
            refine lv_iload_n hx hb dX12_readHearer_96 rfl (lv_at hl 2 rfl) ?_
            refine lv_iload_n hx hb dX12_readHearer_97 rfl (lv_at hl 0 rfl) ?_
            refine lv_iadd hx hb dX12_readHearer_98 ?_
            refine lv_topi (fun z779 e_z779 => ?_)
            have t_z779 : z779.toInt = z3.toInt + x730.toInt := by rw [e_z779]; exact fb_addI (by omega) (by omega)
            refine va_iald hx hb hKn.1 hP 0 0 rfl rfl (vp_in_iff.mpr ⟨by omega, by omega⟩) dX12_readHearer_99 ?_
            refine lv_topi (fun z780 e_z780 => ?_)
            have t_z780 : 0 ≤ z780.toInt ∧ z780.toInt ≤ 99 := by rw [e_z780]; exact wk_g a_f778 (by omega) (by omega)
            have q_z780 : z780.toInt = (f778 z779.toNatClampNeg).toInt := by rw [e_z780]
            refine lv_iadd hx hb dX12_readHearer_100 ?_
            refine lv_topi (fun z781 e_z781 => ?_)
            refine lv_istore_n (lv' := [(2, .int z781), (3, .int x730), (1, .int z3), (0, .ref h0)]) hx hb dX12_readHearer_101 rfl hl (by decide) rfl (fun ls hl => ?_)
            obtain ⟨z782, e_z782⟩ : ∃ y : Int32, y = x730 + 1 := ⟨_, rfl⟩
            have t_z782 : z782.toInt = x730.toInt + 1 := by rw [e_z782]; exact addk (by decide) (by omega) (by omega)
            refine lv_iinc (v := z782) (lv' := [(3, .int z782), (2, .int z781), (1, .int z3), (0, .ref h0)]) hx hb dX12_readHearer_102 hl (k := 1) rfl (by rw [e_z782]; rfl) (by decide) rfl (fun ls hl => ?_)
            refine lv_goto (tgt := 23) hx hb dX12_readHearer_105 (by decide) ?_
            exact ih745 z782 z781 f778 (u776.1 1) (u776.1 2) (u776.1 3) (u776.1 4) (u776.1 5) (u776.1 6) _ _ ls (by omega) a_f778 (by omega) (by omega) (by omega) (by omega) (by omega) (by omega) (by omega) (by omega) (by omega) (by omega) (by omega) hP hD hS (lv_sub hl [0, 1, 2, 3] rfl)
          · have c774 := k_eq (a := x731.toInt) (b := 0) rfl (by decide) c774
            refine lv_aload_n hx hb dX12_readHearer_49 rfl (lv_at hl 3 rfl) ?_
            refine call_V (As := []) (rest := []) (wr := [(a14, .inl (g.2 0, 225, .inl x732)), (a4, .inl (g.2 1, 900, .inl mtape))]) FC hKn hZ (k_X12_good l g h0 a1 a2 a3 a4 a6 a14 a15 a19 a20 a23 a24 a25 a26 a27 a28 mthrown mtaped msize x733 x734 x735 x736 x737 x738 mgoal mgoalDays mgoalHearer mleastOrder mwordsMany (by omega) (by omega) (by omega) (by omega) (by omega) (by omega) (by omega) (by omega) (by omega)) m_yX12_good b_1117 (ci := 12) rfl rfl rfl hP hD hS hA [1] [0, 2] rfl (by decide) rfl (by decide) (by decide) rfl hl.1 rfl (Nat.le_of_ble_eq_true rfl) dX12_readHearer_50 ⟨(Nat.le_of_ble_eq_true rfl), (Nat.le_of_ble_eq_true rfl)⟩ ⟨(Nat.le_of_ble_eq_true rfl), (Nat.le_of_ble_eq_true rfl)⟩ (fun u783 H locs q784 hP hD hS => ?_)
            obtain ⟨q784_0, q784_1⟩ := q784
            have hP : va_P g.1 vwCl [(a14, .inl (g.2 0, 225, .inl x732)), (a4, .inl (g.2 1, 900, .inl mtape)), (h0, .inr (12, [.int mthrown, .ref a1, .ref a2, .ref a3, .ref a4, .int mtaped, .ref a6, .int msize, .int x733, .int x734, .int x735, .int x736, .int x737, .int x738, .ref a14, .ref a15, .int mgoal, .int mgoalDays, .int mgoalHearer, .ref a19, .ref a20, .int mleastOrder, .int mwordsMany, .ref a23, .ref a24, .ref a25, .ref a26, .ref a27, .ref a28]))] H := hP
            have hD : va_D A [(a14, .inl (g.2 0, 225, .inl x732)), (a4, .inl (g.2 1, 900, .inl mtape)), (h0, .inr (12, [.int mthrown, .ref a1, .ref a2, .ref a3, .ref a4, .int mtaped, .ref a6, .int msize, .int x733, .int x734, .int x735, .int x736, .int x737, .int x738, .ref a14, .ref a15, .int mgoal, .int mgoalDays, .int mgoalHearer, .ref a19, .ref a20, .int mleastOrder, .int mwordsMany, .ref a23, .ref a24, .ref a25, .ref a26, .ref a27, .ref a28]))] := hD
            refine W.eq (g2 := F0 m 53 ls [.int (u783.1 0)]) rfl ?_
            rcases (show x737.toInt = 0 ∨ x737.toInt ≠ 0 by omega) with c785 | c785
            · skip
              refine tp_i (v := 1) (Int32.toInt_inj.mp (show (u783.1 0).toInt = (1 : Int32).toInt by rw [show (1 : Int32).toInt = 1 by decide]; omega)) ?_
              refine lv_if_eq (tgt := 76) hx hb dX12_readHearer_53 (by decide) (fun h => absurd h (by decide)) (fun _ => ?_)
              refine lv_aload_n hx hb dX12_readHearer_56 rfl (lv_at hl 3 rfl) ?_
              refine g_get (C := RX12) (T := TX12) (N := 29) (ci := 12) (v := .int x735) FC hKn hP i_X12 2 rfl rfl 10 (by decide) b_1114 rfl dX12_readHearer_57 ?_
              refine lv_iconst (v := 2) hx hb dX12_readHearer_60 (by decide) ?_
              refine lv_icmp_ne (tgt := 76) hx hb dX12_readHearer_61 (by decide) (fun c786 => ?_) (fun c786 => ?_)
              · have c786 := k_ne (a := x735.toInt) (b := 2) rfl (by decide) c786
                refine lv_aload_n hx hb dX12_readHearer_76 rfl (lv_at hl 3 rfl) ?_
                refine g_get (C := RX12) (T := TX12) (N := 29) (ci := 12) (v := .ref a14) FC hKn hP i_X12 2 rfl rfl 14 (by decide) b_1132 rfl dX12_readHearer_77 ?_
                refine lv_iload_n hx hb dX12_readHearer_80 rfl (lv_at hl 2 rfl) ?_
                refine lv_iload_n hx hb dX12_readHearer_81 rfl (lv_at hl 0 rfl) ?_
                refine lv_iadd hx hb dX12_readHearer_82 ?_
                refine lv_topi (fun z787 e_z787 => ?_)
                have t_z787 : z787.toInt = z3.toInt + x730.toInt := by rw [e_z787]; exact fb_addI (by omega) (by omega)
                refine lv_aload_n hx hb dX12_readHearer_83 rfl (lv_at hl 3 rfl) ?_
                refine lv_iconst (v := 0) hx hb dX12_readHearer_84 (by decide) ?_
                refine lv_bipush (v := 20) hx hb dX12_readHearer_85 (by decide) ?_
                have kc20 : (20 : Int32).toInt = 20 := by decide
                refine call_V (As := [.int 0, .int 20]) (rest := [.int z787, .ref a14]) (wr := [(a14, .inl (g.2 0, 225, .inl x732))]) FC hKn hZ (k_X12_number l g h0 a1 a2 a3 a4 a6 a14 a15 a19 a20 a23 a24 a25 a26 a27 a28 mthrown mtaped msize x733 x734 x735 x736 x737 x738 mgoal mgoalDays mgoalHearer mleastOrder mwordsMany mtape ((0 : Int32)) ((20 : Int32)) (by omega) (by omega) (by omega) (by omega) (by omega) (by omega) (by omega) (by omega) (by omega)) m_yX12_number b_1131 (ci := 12) rfl rfl rfl hP hD hS hA [2, 1] [0] rfl (by decide) rfl (by decide) (by decide) rfl hl.1 rfl (Nat.le_of_ble_eq_true rfl) dX12_readHearer_87 ⟨(Nat.le_of_ble_eq_true rfl), (Nat.le_of_ble_eq_true rfl)⟩ ⟨(Nat.le_of_ble_eq_true rfl), (Nat.le_of_ble_eq_true rfl)⟩ (fun u788 H locs q789 hP hD hS => ?_)
                obtain ⟨q789_0, q789_1, q789_2, q789_3, q789_4, q789_5, q789_6, q789_7, q789_8, q789_9⟩ := q789
                have hP : va_P g.1 vwCl [(a14, .inl (g.2 0, 225, .inl x732)), (h0, .inr (12, [.int mthrown, .ref a1, .ref a2, .ref a3, .ref a4, .int mtaped, .ref a6, .int msize, .int (u788.1 1), .int (u788.1 2), .int (u788.1 3), .int (u788.1 4), .int (u788.1 5), .int (u788.1 6), .ref a14, .ref a15, .int mgoal, .int mgoalDays, .int mgoalHearer, .ref a19, .ref a20, .int mleastOrder, .int mwordsMany, .ref a23, .ref a24, .ref a25, .ref a26, .ref a27, .ref a28])), (a4, .inl (g.2 1, 900, .inl mtape))] H := hP
                have hD : va_D A [(a14, .inl (g.2 0, 225, .inl x732)), (h0, .inr (12, [.int mthrown, .ref a1, .ref a2, .ref a3, .ref a4, .int mtaped, .ref a6, .int msize, .int (u788.1 1), .int (u788.1 2), .int (u788.1 3), .int (u788.1 4), .int (u788.1 5), .int (u788.1 6), .ref a14, .ref a15, .int mgoal, .int mgoalDays, .int mgoalHearer, .ref a19, .ref a20, .int mleastOrder, .int mwordsMany, .ref a23, .ref a24, .ref a25, .ref a26, .ref a27, .ref a28])), (a4, .inl (g.2 1, 900, .inl mtape))] := hD
                refine W.eq (g2 := F0 m 90 ls [.int (u788.1 0), .int z787, .ref a14]) rfl ?_
                refine va_iast hx hb hKn.1 hP hD hS 0 0 rfl rfl (vp_in_iff.mpr ⟨by omega, by omega⟩) dX12_readHearer_90 (fun H locs hP hD hS => ?_)
                have hP : va_P g.1 vwCl [(a14, .inl (g.2 0, 225, .inl (upd x732 (z787.toNatClampNeg) (u788.1 0)))), (h0, .inr (12, [.int mthrown, .ref a1, .ref a2, .ref a3, .ref a4, .int mtaped, .ref a6, .int msize, .int (u788.1 1), .int (u788.1 2), .int (u788.1 3), .int (u788.1 4), .int (u788.1 5), .int (u788.1 6), .ref a14, .ref a15, .int mgoal, .int mgoalDays, .int mgoalHearer, .ref a19, .ref a20, .int mleastOrder, .int mwordsMany, .ref a23, .ref a24, .ref a25, .ref a26, .ref a27, .ref a28])), (a4, .inl (g.2 1, 900, .inl mtape))] H := hP
                have hD : va_D A [(a14, .inl (g.2 0, 225, .inl (upd x732 (z787.toNatClampNeg) (u788.1 0)))), (h0, .inr (12, [.int mthrown, .ref a1, .ref a2, .ref a3, .ref a4, .int mtaped, .ref a6, .int msize, .int (u788.1 1), .int (u788.1 2), .int (u788.1 3), .int (u788.1 4), .int (u788.1 5), .int (u788.1 6), .ref a14, .ref a15, .int mgoal, .int mgoalDays, .int mgoalHearer, .ref a19, .ref a20, .int mleastOrder, .int mwordsMany, .ref a23, .ref a24, .ref a25, .ref a26, .ref a27, .ref a28])), (a4, .inl (g.2 1, 900, .inl mtape))] := hD
                have a_f790 : wok (upd x732 (z787.toNatClampNeg) (u788.1 0)) := (wx_g h_x732 (by omega) (by omega) (by omega))
                generalize E_f790 : (upd x732 (z787.toNatClampNeg) (u788.1 0) : Nat → Int32) = f790 at hP hD a_f790
                have g_f790_0 : (f790 0).toInt = (x732 0).toInt := by rw [← E_f790, uo (by have := cln (x := z787) (by omega); omega)]
                have g_f790_2 : (f790 2).toInt = (x732 2).toInt := by rw [← E_f790, uo (by have := cln (x := z787) (by omega); omega)]
                have g_f790_5 : (f790 5).toInt = (x732 5).toInt := by rw [← E_f790, uo (by have := cln (x := z787) (by omega); omega)]
                have g_f790_6 : (f790 6).toInt = (x732 6).toInt := by rw [← E_f790, uo (by have := cln (x := z787) (by omega); omega)]
                have g_f790_7 : (f790 7).toInt = (x732 7).toInt := by rw [← E_f790, uo (by have := cln (x := z787) (by omega); omega)]
                have g_f790_8 : (f790 8).toInt = (x732 8).toInt := by rw [← E_f790, uo (by have := cln (x := z787) (by omega); omega)]
                have g_f790_9 : (f790 9).toInt = (x732 9).toInt := by rw [← E_f790, uo (by have := cln (x := z787) (by omega); omega)]
                refine lv_iload_n hx hb dX12_readHearer_91 rfl (lv_at hl 1 rfl) ?_
                refine lv_aload_n hx hb dX12_readHearer_92 rfl (lv_at hl 3 rfl) ?_
                refine g_get (C := RX12) (T := TX12) (N := 29) (ci := 12) (v := .ref a14) FC hKn hP i_X12 1 rfl rfl 14 (by decide) b_1132 rfl dX12_readHearer_93 ?_
                refine lv_iload_n hx hb dX12_readHearer_96 rfl (lv_at hl 2 rfl) ?_
                refine lv_iload_n hx hb dX12_readHearer_97 rfl (lv_at hl 0 rfl) ?_
                refine lv_iadd hx hb dX12_readHearer_98 ?_
                refine lv_topi (fun z791 e_z791 => ?_)
                have t_z791 : z791.toInt = z3.toInt + x730.toInt := by rw [e_z791]; exact fb_addI (by omega) (by omega)
                refine va_iald hx hb hKn.1 hP 0 0 rfl rfl (vp_in_iff.mpr ⟨by omega, by omega⟩) dX12_readHearer_99 ?_
                refine lv_topi (fun z792 e_z792 => ?_)
                have t_z792 : 0 ≤ z792.toInt ∧ z792.toInt ≤ 99 := by rw [e_z792]; exact wk_g a_f790 (by omega) (by omega)
                have q_z792 : z792.toInt = (f790 z791.toNatClampNeg).toInt := by rw [e_z792]
                refine lv_iadd hx hb dX12_readHearer_100 ?_
                refine lv_topi (fun z793 e_z793 => ?_)
                have t_z793 : z793.toInt = x731.toInt + z792.toInt := by rw [e_z793]; exact fb_addI (by omega) (by omega)
                refine lv_istore_n (lv' := [(2, .int z793), (3, .int x730), (1, .int z3), (0, .ref h0)]) hx hb dX12_readHearer_101 rfl hl (by decide) rfl (fun ls hl => ?_)
                obtain ⟨z794, e_z794⟩ : ∃ y : Int32, y = x730 + 1 := ⟨_, rfl⟩
                have t_z794 : z794.toInt = x730.toInt + 1 := by rw [e_z794]; exact addk (by decide) (by omega) (by omega)
                refine lv_iinc (v := z794) (lv' := [(3, .int z794), (2, .int z793), (1, .int z3), (0, .ref h0)]) hx hb dX12_readHearer_102 hl (k := 1) rfl (by rw [e_z794]; rfl) (by decide) rfl (fun ls hl => ?_)
                refine lv_goto (tgt := 23) hx hb dX12_readHearer_105 (by decide) ?_
                exact ih745 z794 z793 f790 (u788.1 1) (u788.1 2) (u788.1 3) (u788.1 4) (u788.1 5) (u788.1 6) _ _ ls (by omega) a_f790 (by omega) (by omega) (by omega) (by omega) (by omega) (by omega) (by omega) (by omega) (by omega) (by omega) (by omega) hP hD hS (lv_sub hl [0, 1, 2, 3] rfl)
              · have c786 := k_eq (a := x735.toInt) (b := 2) rfl (by decide) c786
                refine lv_aload_n hx hb dX12_readHearer_64 rfl (lv_at hl 3 rfl) ?_
                refine g_get (C := RX12) (T := TX12) (N := 29) (ci := 12) (v := .int x736) FC hKn hP i_X12 2 rfl rfl 11 (by decide) b_1115 rfl dX12_readHearer_65 ?_
                refine lv_if_ne (tgt := 76) hx hb dX12_readHearer_68 (by decide) (fun c795 => ?_) (fun c795 => ?_)
                · have c795 := k_ne (a := x736.toInt) (b := 0) rfl (by decide) c795
                  refine lv_aload_n hx hb dX12_readHearer_76 rfl (lv_at hl 3 rfl) ?_
                  refine g_get (C := RX12) (T := TX12) (N := 29) (ci := 12) (v := .ref a14) FC hKn hP i_X12 2 rfl rfl 14 (by decide) b_1132 rfl dX12_readHearer_77 ?_
                  refine lv_iload_n hx hb dX12_readHearer_80 rfl (lv_at hl 2 rfl) ?_
                  refine lv_iload_n hx hb dX12_readHearer_81 rfl (lv_at hl 0 rfl) ?_
                  refine lv_iadd hx hb dX12_readHearer_82 ?_
                  refine lv_topi (fun z796 e_z796 => ?_)
                  have t_z796 : z796.toInt = z3.toInt + x730.toInt := by rw [e_z796]; exact fb_addI (by omega) (by omega)
                  refine lv_aload_n hx hb dX12_readHearer_83 rfl (lv_at hl 3 rfl) ?_
                  refine lv_iconst (v := 0) hx hb dX12_readHearer_84 (by decide) ?_
                  refine lv_bipush (v := 20) hx hb dX12_readHearer_85 (by decide) ?_
                  have kc20 : (20 : Int32).toInt = 20 := by decide
                  refine call_V (As := [.int 0, .int 20]) (rest := [.int z796, .ref a14]) (wr := [(a14, .inl (g.2 0, 225, .inl x732))]) FC hKn hZ (k_X12_number l g h0 a1 a2 a3 a4 a6 a14 a15 a19 a20 a23 a24 a25 a26 a27 a28 mthrown mtaped msize x733 x734 x735 x736 x737 x738 mgoal mgoalDays mgoalHearer mleastOrder mwordsMany mtape ((0 : Int32)) ((20 : Int32)) (by omega) (by omega) (by omega) (by omega) (by omega) (by omega) (by omega) (by omega) (by omega)) m_yX12_number b_1131 (ci := 12) rfl rfl rfl hP hD hS hA [2, 1] [0] rfl (by decide) rfl (by decide) (by decide) rfl hl.1 rfl (Nat.le_of_ble_eq_true rfl) dX12_readHearer_87 ⟨(Nat.le_of_ble_eq_true rfl), (Nat.le_of_ble_eq_true rfl)⟩ ⟨(Nat.le_of_ble_eq_true rfl), (Nat.le_of_ble_eq_true rfl)⟩ (fun u797 H locs q798 hP hD hS => ?_)
                  obtain ⟨q798_0, q798_1, q798_2, q798_3, q798_4, q798_5, q798_6, q798_7, q798_8, q798_9⟩ := q798
                  have hP : va_P g.1 vwCl [(a14, .inl (g.2 0, 225, .inl x732)), (h0, .inr (12, [.int mthrown, .ref a1, .ref a2, .ref a3, .ref a4, .int mtaped, .ref a6, .int msize, .int (u797.1 1), .int (u797.1 2), .int (u797.1 3), .int (u797.1 4), .int (u797.1 5), .int (u797.1 6), .ref a14, .ref a15, .int mgoal, .int mgoalDays, .int mgoalHearer, .ref a19, .ref a20, .int mleastOrder, .int mwordsMany, .ref a23, .ref a24, .ref a25, .ref a26, .ref a27, .ref a28])), (a4, .inl (g.2 1, 900, .inl mtape))] H := hP
                  have hD : va_D A [(a14, .inl (g.2 0, 225, .inl x732)), (h0, .inr (12, [.int mthrown, .ref a1, .ref a2, .ref a3, .ref a4, .int mtaped, .ref a6, .int msize, .int (u797.1 1), .int (u797.1 2), .int (u797.1 3), .int (u797.1 4), .int (u797.1 5), .int (u797.1 6), .ref a14, .ref a15, .int mgoal, .int mgoalDays, .int mgoalHearer, .ref a19, .ref a20, .int mleastOrder, .int mwordsMany, .ref a23, .ref a24, .ref a25, .ref a26, .ref a27, .ref a28])), (a4, .inl (g.2 1, 900, .inl mtape))] := hD
                  refine W.eq (g2 := F0 m 90 ls [.int (u797.1 0), .int z796, .ref a14]) rfl ?_
                  refine va_iast hx hb hKn.1 hP hD hS 0 0 rfl rfl (vp_in_iff.mpr ⟨by omega, by omega⟩) dX12_readHearer_90 (fun H locs hP hD hS => ?_)
                  have hP : va_P g.1 vwCl [(a14, .inl (g.2 0, 225, .inl (upd x732 (z796.toNatClampNeg) (u797.1 0)))), (h0, .inr (12, [.int mthrown, .ref a1, .ref a2, .ref a3, .ref a4, .int mtaped, .ref a6, .int msize, .int (u797.1 1), .int (u797.1 2), .int (u797.1 3), .int (u797.1 4), .int (u797.1 5), .int (u797.1 6), .ref a14, .ref a15, .int mgoal, .int mgoalDays, .int mgoalHearer, .ref a19, .ref a20, .int mleastOrder, .int mwordsMany, .ref a23, .ref a24, .ref a25, .ref a26, .ref a27, .ref a28])), (a4, .inl (g.2 1, 900, .inl mtape))] H := hP
                  have hD : va_D A [(a14, .inl (g.2 0, 225, .inl (upd x732 (z796.toNatClampNeg) (u797.1 0)))), (h0, .inr (12, [.int mthrown, .ref a1, .ref a2, .ref a3, .ref a4, .int mtaped, .ref a6, .int msize, .int (u797.1 1), .int (u797.1 2), .int (u797.1 3), .int (u797.1 4), .int (u797.1 5), .int (u797.1 6), .ref a14, .ref a15, .int mgoal, .int mgoalDays, .int mgoalHearer, .ref a19, .ref a20, .int mleastOrder, .int mwordsMany, .ref a23, .ref a24, .ref a25, .ref a26, .ref a27, .ref a28])), (a4, .inl (g.2 1, 900, .inl mtape))] := hD
                  have a_f799 : wok (upd x732 (z796.toNatClampNeg) (u797.1 0)) := (wx_g h_x732 (by omega) (by omega) (by omega))
                  generalize E_f799 : (upd x732 (z796.toNatClampNeg) (u797.1 0) : Nat → Int32) = f799 at hP hD a_f799
                  have g_f799_0 : (f799 0).toInt = (x732 0).toInt := by rw [← E_f799, uo (by have := cln (x := z796) (by omega); omega)]
                  have g_f799_2 : (f799 2).toInt = (x732 2).toInt := by rw [← E_f799, uo (by have := cln (x := z796) (by omega); omega)]
                  have g_f799_5 : (f799 5).toInt = (x732 5).toInt := by rw [← E_f799, uo (by have := cln (x := z796) (by omega); omega)]
                  have g_f799_6 : (f799 6).toInt = (x732 6).toInt := by rw [← E_f799, uo (by have := cln (x := z796) (by omega); omega)]
                  have g_f799_7 : (f799 7).toInt = (x732 7).toInt := by rw [← E_f799, uo (by have := cln (x := z796) (by omega); omega)]
                  have g_f799_8 : (f799 8).toInt = (x732 8).toInt := by rw [← E_f799, uo (by have := cln (x := z796) (by omega); omega)]
                  have g_f799_9 : (f799 9).toInt = (x732 9).toInt := by rw [← E_f799, uo (by have := cln (x := z796) (by omega); omega)]
                  refine lv_iload_n hx hb dX12_readHearer_91 rfl (lv_at hl 1 rfl) ?_
                  refine lv_aload_n hx hb dX12_readHearer_92 rfl (lv_at hl 3 rfl) ?_
                  refine g_get (C := RX12) (T := TX12) (N := 29) (ci := 12) (v := .ref a14) FC hKn hP i_X12 1 rfl rfl 14 (by decide) b_1132 rfl dX12_readHearer_93 ?_
                  refine lv_iload_n hx hb dX12_readHearer_96 rfl (lv_at hl 2 rfl) ?_
                  refine lv_iload_n hx hb dX12_readHearer_97 rfl (lv_at hl 0 rfl) ?_
                  refine lv_iadd hx hb dX12_readHearer_98 ?_
                  refine lv_topi (fun z800 e_z800 => ?_)
                  have t_z800 : z800.toInt = z3.toInt + x730.toInt := by rw [e_z800]; exact fb_addI (by omega) (by omega)
                  refine va_iald hx hb hKn.1 hP 0 0 rfl rfl (vp_in_iff.mpr ⟨by omega, by omega⟩) dX12_readHearer_99 ?_
                  refine lv_topi (fun z801 e_z801 => ?_)
                  have t_z801 : 0 ≤ z801.toInt ∧ z801.toInt ≤ 99 := by rw [e_z801]; exact wk_g a_f799 (by omega) (by omega)
                  have q_z801 : z801.toInt = (f799 z800.toNatClampNeg).toInt := by rw [e_z801]
                  refine lv_iadd hx hb dX12_readHearer_100 ?_
                  refine lv_topi (fun z802 e_z802 => ?_)
                  have t_z802 : z802.toInt = x731.toInt + z801.toInt := by rw [e_z802]; exact fb_addI (by omega) (by omega)
                  refine lv_istore_n (lv' := [(2, .int z802), (3, .int x730), (1, .int z3), (0, .ref h0)]) hx hb dX12_readHearer_101 rfl hl (by decide) rfl (fun ls hl => ?_)
                  obtain ⟨z803, e_z803⟩ : ∃ y : Int32, y = x730 + 1 := ⟨_, rfl⟩
                  have t_z803 : z803.toInt = x730.toInt + 1 := by rw [e_z803]; exact addk (by decide) (by omega) (by omega)
                  refine lv_iinc (v := z803) (lv' := [(3, .int z803), (2, .int z802), (1, .int z3), (0, .ref h0)]) hx hb dX12_readHearer_102 hl (k := 1) rfl (by rw [e_z803]; rfl) (by decide) rfl (fun ls hl => ?_)
                  refine lv_goto (tgt := 23) hx hb dX12_readHearer_105 (by decide) ?_
                  exact ih745 z803 z802 f799 (u797.1 1) (u797.1 2) (u797.1 3) (u797.1 4) (u797.1 5) (u797.1 6) _ _ ls (by omega) a_f799 (by omega) (by omega) (by omega) (by omega) (by omega) (by omega) (by omega) (by omega) (by omega) (by omega) (by omega) hP hD hS (lv_sub hl [0, 1, 2, 3] rfl)
                · have c795 := k_eq (a := x736.toInt) (b := 0) rfl (by decide) c795
                  refine lv_aload_n hx hb dX12_readHearer_71 rfl (lv_at hl 3 rfl) ?_
                  refine lv_iconst (v := 2) hx hb dX12_readHearer_72 (by decide) ?_
                  have kc2 : (2 : Int32).toInt = 2 := by decide
                  refine call_V (As := [.int 2]) (rest := []) (wr := [(a14, .inl (g.2 0, 225, .inl x732)), (a4, .inl (g.2 1, 900, .inl mtape))]) FC hKn hZ (k_X12_errs l g h0 a1 a2 a3 a4 a6 a14 a15 a19 a20 a23 a24 a25 a26 a27 a28 mthrown mtaped msize x733 x734 x735 x736 x737 x738 mgoal mgoalDays mgoalHearer mleastOrder mwordsMany ((2 : Int32)) (by omega) (by omega) (by omega) (by omega) (by omega) (by omega) (by omega) (by omega) (by omega) (by omega)) m_yX12_errs b_1129 (ci := 12) rfl rfl rfl hP hD hS hA [2] [0, 1] rfl (by decide) rfl (by decide) (by decide) rfl hl.1 rfl (Nat.le_of_ble_eq_true rfl) dX12_readHearer_73 ⟨(Nat.le_of_ble_eq_true rfl), (Nat.le_of_ble_eq_true rfl)⟩ ⟨(Nat.le_of_ble_eq_true rfl), (Nat.le_of_ble_eq_true rfl)⟩ (fun u804 H locs q805 hP hD hS => ?_)
                  have q805_0 : 1 ≤ (u804.1 1).toInt ∧ (u804.1 1).toInt ≤ 3 := q805
                  have hP : va_P g.1 vwCl [(a14, .inl (g.2 0, 225, .inl x732)), (a4, .inl (g.2 1, 900, .inl mtape)), (h0, .inr (12, [.int mthrown, .ref a1, .ref a2, .ref a3, .ref a4, .int mtaped, .ref a6, .int msize, .int x733, .int x734, .int x735, .int x736, .int (u804.1 1), .int (u804.1 2), .ref a14, .ref a15, .int mgoal, .int mgoalDays, .int mgoalHearer, .ref a19, .ref a20, .int mleastOrder, .int mwordsMany, .ref a23, .ref a24, .ref a25, .ref a26, .ref a27, .ref a28]))] H := hP
                  have hD : va_D A [(a14, .inl (g.2 0, 225, .inl x732)), (a4, .inl (g.2 1, 900, .inl mtape)), (h0, .inr (12, [.int mthrown, .ref a1, .ref a2, .ref a3, .ref a4, .int mtaped, .ref a6, .int msize, .int x733, .int x734, .int x735, .int x736, .int (u804.1 1), .int (u804.1 2), .ref a14, .ref a15, .int mgoal, .int mgoalDays, .int mgoalHearer, .ref a19, .ref a20, .int mleastOrder, .int mwordsMany, .ref a23, .ref a24, .ref a25, .ref a26, .ref a27, .ref a28]))] := hD
                  refine W.eq (g2 := F0 m 76 ls []) rfl ?_
                  refine lv_aload_n hx hb dX12_readHearer_76 rfl (lv_at hl 3 rfl) ?_
                  refine g_get (C := RX12) (T := TX12) (N := 29) (ci := 12) (v := .ref a14) FC hKn hP i_X12 2 rfl rfl 14 (by decide) b_1132 rfl dX12_readHearer_77 ?_
                  refine lv_iload_n hx hb dX12_readHearer_80 rfl (lv_at hl 2 rfl) ?_
                  refine lv_iload_n hx hb dX12_readHearer_81 rfl (lv_at hl 0 rfl) ?_
                  refine lv_iadd hx hb dX12_readHearer_82 ?_
                  refine lv_topi (fun z806 e_z806 => ?_)
                  have t_z806 : z806.toInt = z3.toInt + x730.toInt := by rw [e_z806]; exact fb_addI (by omega) (by omega)
                  refine lv_aload_n hx hb dX12_readHearer_83 rfl (lv_at hl 3 rfl) ?_
                  refine lv_iconst (v := 0) hx hb dX12_readHearer_84 (by decide) ?_
                  refine lv_bipush (v := 20) hx hb dX12_readHearer_85 (by decide) ?_
                  have kc20 : (20 : Int32).toInt = 20 := by decide
                  refine call_V (As := [.int 0, .int 20]) (rest := [.int z806, .ref a14]) (wr := [(a14, .inl (g.2 0, 225, .inl x732))]) FC hKn hZ (k_X12_number l g h0 a1 a2 a3 a4 a6 a14 a15 a19 a20 a23 a24 a25 a26 a27 a28 mthrown mtaped msize x733 x734 x735 x736 (u804.1 1) (u804.1 2) mgoal mgoalDays mgoalHearer mleastOrder mwordsMany mtape ((0 : Int32)) ((20 : Int32)) (by omega) (by omega) (by omega) (by omega) (by omega) (by omega) (by omega) (by omega) (by omega)) m_yX12_number b_1131 (ci := 12) rfl rfl rfl hP hD hS hA [2, 1] [0] rfl (by decide) rfl (by decide) (by decide) rfl hl.1 rfl (Nat.le_of_ble_eq_true rfl) dX12_readHearer_87 ⟨(Nat.le_of_ble_eq_true rfl), (Nat.le_of_ble_eq_true rfl)⟩ ⟨(Nat.le_of_ble_eq_true rfl), (Nat.le_of_ble_eq_true rfl)⟩ (fun u807 H locs q808 hP hD hS => ?_)
                  obtain ⟨q808_0, q808_1, q808_2, q808_3, q808_4, q808_5, q808_6, q808_7, q808_8, q808_9⟩ := q808
                  have hP : va_P g.1 vwCl [(a14, .inl (g.2 0, 225, .inl x732)), (h0, .inr (12, [.int mthrown, .ref a1, .ref a2, .ref a3, .ref a4, .int mtaped, .ref a6, .int msize, .int (u807.1 1), .int (u807.1 2), .int (u807.1 3), .int (u807.1 4), .int (u807.1 5), .int (u807.1 6), .ref a14, .ref a15, .int mgoal, .int mgoalDays, .int mgoalHearer, .ref a19, .ref a20, .int mleastOrder, .int mwordsMany, .ref a23, .ref a24, .ref a25, .ref a26, .ref a27, .ref a28])), (a4, .inl (g.2 1, 900, .inl mtape))] H := hP
                  have hD : va_D A [(a14, .inl (g.2 0, 225, .inl x732)), (h0, .inr (12, [.int mthrown, .ref a1, .ref a2, .ref a3, .ref a4, .int mtaped, .ref a6, .int msize, .int (u807.1 1), .int (u807.1 2), .int (u807.1 3), .int (u807.1 4), .int (u807.1 5), .int (u807.1 6), .ref a14, .ref a15, .int mgoal, .int mgoalDays, .int mgoalHearer, .ref a19, .ref a20, .int mleastOrder, .int mwordsMany, .ref a23, .ref a24, .ref a25, .ref a26, .ref a27, .ref a28])), (a4, .inl (g.2 1, 900, .inl mtape))] := hD
                  refine W.eq (g2 := F0 m 90 ls [.int (u807.1 0), .int z806, .ref a14]) rfl ?_
                  refine va_iast hx hb hKn.1 hP hD hS 0 0 rfl rfl (vp_in_iff.mpr ⟨by omega, by omega⟩) dX12_readHearer_90 (fun H locs hP hD hS => ?_)
                  have hP : va_P g.1 vwCl [(a14, .inl (g.2 0, 225, .inl (upd x732 (z806.toNatClampNeg) (u807.1 0)))), (h0, .inr (12, [.int mthrown, .ref a1, .ref a2, .ref a3, .ref a4, .int mtaped, .ref a6, .int msize, .int (u807.1 1), .int (u807.1 2), .int (u807.1 3), .int (u807.1 4), .int (u807.1 5), .int (u807.1 6), .ref a14, .ref a15, .int mgoal, .int mgoalDays, .int mgoalHearer, .ref a19, .ref a20, .int mleastOrder, .int mwordsMany, .ref a23, .ref a24, .ref a25, .ref a26, .ref a27, .ref a28])), (a4, .inl (g.2 1, 900, .inl mtape))] H := hP
                  have hD : va_D A [(a14, .inl (g.2 0, 225, .inl (upd x732 (z806.toNatClampNeg) (u807.1 0)))), (h0, .inr (12, [.int mthrown, .ref a1, .ref a2, .ref a3, .ref a4, .int mtaped, .ref a6, .int msize, .int (u807.1 1), .int (u807.1 2), .int (u807.1 3), .int (u807.1 4), .int (u807.1 5), .int (u807.1 6), .ref a14, .ref a15, .int mgoal, .int mgoalDays, .int mgoalHearer, .ref a19, .ref a20, .int mleastOrder, .int mwordsMany, .ref a23, .ref a24, .ref a25, .ref a26, .ref a27, .ref a28])), (a4, .inl (g.2 1, 900, .inl mtape))] := hD
                  have a_f809 : wok (upd x732 (z806.toNatClampNeg) (u807.1 0)) := (wx_g h_x732 (by omega) (by omega) (by omega))
                  generalize E_f809 : (upd x732 (z806.toNatClampNeg) (u807.1 0) : Nat → Int32) = f809 at hP hD a_f809
                  have g_f809_0 : (f809 0).toInt = (x732 0).toInt := by rw [← E_f809, uo (by have := cln (x := z806) (by omega); omega)]
                  have g_f809_2 : (f809 2).toInt = (x732 2).toInt := by rw [← E_f809, uo (by have := cln (x := z806) (by omega); omega)]
                  have g_f809_5 : (f809 5).toInt = (x732 5).toInt := by rw [← E_f809, uo (by have := cln (x := z806) (by omega); omega)]
                  have g_f809_6 : (f809 6).toInt = (x732 6).toInt := by rw [← E_f809, uo (by have := cln (x := z806) (by omega); omega)]
                  have g_f809_7 : (f809 7).toInt = (x732 7).toInt := by rw [← E_f809, uo (by have := cln (x := z806) (by omega); omega)]
                  have g_f809_8 : (f809 8).toInt = (x732 8).toInt := by rw [← E_f809, uo (by have := cln (x := z806) (by omega); omega)]
                  have g_f809_9 : (f809 9).toInt = (x732 9).toInt := by rw [← E_f809, uo (by have := cln (x := z806) (by omega); omega)]
                  refine lv_iload_n hx hb dX12_readHearer_91 rfl (lv_at hl 1 rfl) ?_
                  refine lv_aload_n hx hb dX12_readHearer_92 rfl (lv_at hl 3 rfl) ?_
                  refine g_get (C := RX12) (T := TX12) (N := 29) (ci := 12) (v := .ref a14) FC hKn hP i_X12 1 rfl rfl 14 (by decide) b_1132 rfl dX12_readHearer_93 ?_
                  refine lv_iload_n hx hb dX12_readHearer_96 rfl (lv_at hl 2 rfl) ?_
                  refine lv_iload_n hx hb dX12_readHearer_97 rfl (lv_at hl 0 rfl) ?_
                  refine lv_iadd hx hb dX12_readHearer_98 ?_
                  refine lv_topi (fun z810 e_z810 => ?_)
                  have t_z810 : z810.toInt = z3.toInt + x730.toInt := by rw [e_z810]; exact fb_addI (by omega) (by omega)
                  refine va_iald hx hb hKn.1 hP 0 0 rfl rfl (vp_in_iff.mpr ⟨by omega, by omega⟩) dX12_readHearer_99 ?_
                  refine lv_topi (fun z811 e_z811 => ?_)
                  have t_z811 : 0 ≤ z811.toInt ∧ z811.toInt ≤ 99 := by rw [e_z811]; exact wk_g a_f809 (by omega) (by omega)
                  have q_z811 : z811.toInt = (f809 z810.toNatClampNeg).toInt := by rw [e_z811]
                  refine lv_iadd hx hb dX12_readHearer_100 ?_
                  refine lv_topi (fun z812 e_z812 => ?_)
                  have t_z812 : z812.toInt = x731.toInt + z811.toInt := by rw [e_z812]; exact fb_addI (by omega) (by omega)
                  refine lv_istore_n (lv' := [(2, .int z812), (3, .int x730), (1, .int z3), (0, .ref h0)]) hx hb dX12_readHearer_101 rfl hl (by decide) rfl (fun ls hl => ?_)
                  obtain ⟨z813, e_z813⟩ : ∃ y : Int32, y = x730 + 1 := ⟨_, rfl⟩
                  have t_z813 : z813.toInt = x730.toInt + 1 := by rw [e_z813]; exact addk (by decide) (by omega) (by omega)
                  refine lv_iinc (v := z813) (lv' := [(3, .int z813), (2, .int z812), (1, .int z3), (0, .ref h0)]) hx hb dX12_readHearer_102 hl (k := 1) rfl (by rw [e_z813]; rfl) (by decide) rfl (fun ls hl => ?_)
                  refine lv_goto (tgt := 23) hx hb dX12_readHearer_105 (by decide) ?_
                  exact ih745 z813 z812 f809 (u807.1 1) (u807.1 2) (u807.1 3) (u807.1 4) (u807.1 5) (u807.1 6) _ _ ls (by omega) a_f809 (by omega) (by omega) (by omega) (by omega) (by omega) (by omega) (by omega) (by omega) (by omega) (by omega) (by omega) hP hD hS (lv_sub hl [0, 1, 2, 3] rfl)
            · skip
              refine tp_i (v := 0) (Int32.toInt_inj.mp (show (u783.1 0).toInt = (0 : Int32).toInt by rw [show (0 : Int32).toInt = 0 by decide]; omega)) ?_
              refine lv_if_eq (tgt := 76) hx hb dX12_readHearer_53 (by decide) (fun _ => ?_) (fun h => absurd h (by decide))
              refine lv_aload_n hx hb dX12_readHearer_76 rfl (lv_at hl 3 rfl) ?_
              refine g_get (C := RX12) (T := TX12) (N := 29) (ci := 12) (v := .ref a14) FC hKn hP i_X12 2 rfl rfl 14 (by decide) b_1132 rfl dX12_readHearer_77 ?_
              refine lv_iload_n hx hb dX12_readHearer_80 rfl (lv_at hl 2 rfl) ?_
              refine lv_iload_n hx hb dX12_readHearer_81 rfl (lv_at hl 0 rfl) ?_
              refine lv_iadd hx hb dX12_readHearer_82 ?_
              refine lv_topi (fun z814 e_z814 => ?_)
              have t_z814 : z814.toInt = z3.toInt + x730.toInt := by rw [e_z814]; exact fb_addI (by omega) (by omega)
              refine lv_aload_n hx hb dX12_readHearer_83 rfl (lv_at hl 3 rfl) ?_
              refine lv_iconst (v := 0) hx hb dX12_readHearer_84 (by decide) ?_
              refine lv_bipush (v := 20) hx hb dX12_readHearer_85 (by decide) ?_
              have kc20 : (20 : Int32).toInt = 20 := by decide
              refine call_V (As := [.int 0, .int 20]) (rest := [.int z814, .ref a14]) (wr := [(a14, .inl (g.2 0, 225, .inl x732))]) FC hKn hZ (k_X12_number l g h0 a1 a2 a3 a4 a6 a14 a15 a19 a20 a23 a24 a25 a26 a27 a28 mthrown mtaped msize x733 x734 x735 x736 x737 x738 mgoal mgoalDays mgoalHearer mleastOrder mwordsMany mtape ((0 : Int32)) ((20 : Int32)) (by omega) (by omega) (by omega) (by omega) (by omega) (by omega) (by omega) (by omega) (by omega)) m_yX12_number b_1131 (ci := 12) rfl rfl rfl hP hD hS hA [2, 1] [0] rfl (by decide) rfl (by decide) (by decide) rfl hl.1 rfl (Nat.le_of_ble_eq_true rfl) dX12_readHearer_87 ⟨(Nat.le_of_ble_eq_true rfl), (Nat.le_of_ble_eq_true rfl)⟩ ⟨(Nat.le_of_ble_eq_true rfl), (Nat.le_of_ble_eq_true rfl)⟩ (fun u815 H locs q816 hP hD hS => ?_)
              obtain ⟨q816_0, q816_1, q816_2, q816_3, q816_4, q816_5, q816_6, q816_7, q816_8, q816_9⟩ := q816
              have hP : va_P g.1 vwCl [(a14, .inl (g.2 0, 225, .inl x732)), (h0, .inr (12, [.int mthrown, .ref a1, .ref a2, .ref a3, .ref a4, .int mtaped, .ref a6, .int msize, .int (u815.1 1), .int (u815.1 2), .int (u815.1 3), .int (u815.1 4), .int (u815.1 5), .int (u815.1 6), .ref a14, .ref a15, .int mgoal, .int mgoalDays, .int mgoalHearer, .ref a19, .ref a20, .int mleastOrder, .int mwordsMany, .ref a23, .ref a24, .ref a25, .ref a26, .ref a27, .ref a28])), (a4, .inl (g.2 1, 900, .inl mtape))] H := hP
              have hD : va_D A [(a14, .inl (g.2 0, 225, .inl x732)), (h0, .inr (12, [.int mthrown, .ref a1, .ref a2, .ref a3, .ref a4, .int mtaped, .ref a6, .int msize, .int (u815.1 1), .int (u815.1 2), .int (u815.1 3), .int (u815.1 4), .int (u815.1 5), .int (u815.1 6), .ref a14, .ref a15, .int mgoal, .int mgoalDays, .int mgoalHearer, .ref a19, .ref a20, .int mleastOrder, .int mwordsMany, .ref a23, .ref a24, .ref a25, .ref a26, .ref a27, .ref a28])), (a4, .inl (g.2 1, 900, .inl mtape))] := hD
              refine W.eq (g2 := F0 m 90 ls [.int (u815.1 0), .int z814, .ref a14]) rfl ?_
              refine va_iast hx hb hKn.1 hP hD hS 0 0 rfl rfl (vp_in_iff.mpr ⟨by omega, by omega⟩) dX12_readHearer_90 (fun H locs hP hD hS => ?_)
              have hP : va_P g.1 vwCl [(a14, .inl (g.2 0, 225, .inl (upd x732 (z814.toNatClampNeg) (u815.1 0)))), (h0, .inr (12, [.int mthrown, .ref a1, .ref a2, .ref a3, .ref a4, .int mtaped, .ref a6, .int msize, .int (u815.1 1), .int (u815.1 2), .int (u815.1 3), .int (u815.1 4), .int (u815.1 5), .int (u815.1 6), .ref a14, .ref a15, .int mgoal, .int mgoalDays, .int mgoalHearer, .ref a19, .ref a20, .int mleastOrder, .int mwordsMany, .ref a23, .ref a24, .ref a25, .ref a26, .ref a27, .ref a28])), (a4, .inl (g.2 1, 900, .inl mtape))] H := hP
              have hD : va_D A [(a14, .inl (g.2 0, 225, .inl (upd x732 (z814.toNatClampNeg) (u815.1 0)))), (h0, .inr (12, [.int mthrown, .ref a1, .ref a2, .ref a3, .ref a4, .int mtaped, .ref a6, .int msize, .int (u815.1 1), .int (u815.1 2), .int (u815.1 3), .int (u815.1 4), .int (u815.1 5), .int (u815.1 6), .ref a14, .ref a15, .int mgoal, .int mgoalDays, .int mgoalHearer, .ref a19, .ref a20, .int mleastOrder, .int mwordsMany, .ref a23, .ref a24, .ref a25, .ref a26, .ref a27, .ref a28])), (a4, .inl (g.2 1, 900, .inl mtape))] := hD
              have a_f817 : wok (upd x732 (z814.toNatClampNeg) (u815.1 0)) := (wx_g h_x732 (by omega) (by omega) (by omega))
              generalize E_f817 : (upd x732 (z814.toNatClampNeg) (u815.1 0) : Nat → Int32) = f817 at hP hD a_f817
              have g_f817_0 : (f817 0).toInt = (x732 0).toInt := by rw [← E_f817, uo (by have := cln (x := z814) (by omega); omega)]
              have g_f817_2 : (f817 2).toInt = (x732 2).toInt := by rw [← E_f817, uo (by have := cln (x := z814) (by omega); omega)]
              have g_f817_5 : (f817 5).toInt = (x732 5).toInt := by rw [← E_f817, uo (by have := cln (x := z814) (by omega); omega)]
              have g_f817_6 : (f817 6).toInt = (x732 6).toInt := by rw [← E_f817, uo (by have := cln (x := z814) (by omega); omega)]
              have g_f817_7 : (f817 7).toInt = (x732 7).toInt := by rw [← E_f817, uo (by have := cln (x := z814) (by omega); omega)]
              have g_f817_8 : (f817 8).toInt = (x732 8).toInt := by rw [← E_f817, uo (by have := cln (x := z814) (by omega); omega)]
              have g_f817_9 : (f817 9).toInt = (x732 9).toInt := by rw [← E_f817, uo (by have := cln (x := z814) (by omega); omega)]
              refine lv_iload_n hx hb dX12_readHearer_91 rfl (lv_at hl 1 rfl) ?_
              refine lv_aload_n hx hb dX12_readHearer_92 rfl (lv_at hl 3 rfl) ?_
              refine g_get (C := RX12) (T := TX12) (N := 29) (ci := 12) (v := .ref a14) FC hKn hP i_X12 1 rfl rfl 14 (by decide) b_1132 rfl dX12_readHearer_93 ?_
              refine lv_iload_n hx hb dX12_readHearer_96 rfl (lv_at hl 2 rfl) ?_
              refine lv_iload_n hx hb dX12_readHearer_97 rfl (lv_at hl 0 rfl) ?_
              refine lv_iadd hx hb dX12_readHearer_98 ?_
              refine lv_topi (fun z818 e_z818 => ?_)
              have t_z818 : z818.toInt = z3.toInt + x730.toInt := by rw [e_z818]; exact fb_addI (by omega) (by omega)
              refine va_iald hx hb hKn.1 hP 0 0 rfl rfl (vp_in_iff.mpr ⟨by omega, by omega⟩) dX12_readHearer_99 ?_
              refine lv_topi (fun z819 e_z819 => ?_)
              have t_z819 : 0 ≤ z819.toInt ∧ z819.toInt ≤ 99 := by rw [e_z819]; exact wk_g a_f817 (by omega) (by omega)
              have q_z819 : z819.toInt = (f817 z818.toNatClampNeg).toInt := by rw [e_z819]
              refine lv_iadd hx hb dX12_readHearer_100 ?_
              refine lv_topi (fun z820 e_z820 => ?_)
              have t_z820 : z820.toInt = x731.toInt + z819.toInt := by rw [e_z820]; exact fb_addI (by omega) (by omega)
              refine lv_istore_n (lv' := [(2, .int z820), (3, .int x730), (1, .int z3), (0, .ref h0)]) hx hb dX12_readHearer_101 rfl hl (by decide) rfl (fun ls hl => ?_)
              obtain ⟨z821, e_z821⟩ : ∃ y : Int32, y = x730 + 1 := ⟨_, rfl⟩
              have t_z821 : z821.toInt = x730.toInt + 1 := by rw [e_z821]; exact addk (by decide) (by omega) (by omega)
              refine lv_iinc (v := z821) (lv' := [(3, .int z821), (2, .int z820), (1, .int z3), (0, .ref h0)]) hx hb dX12_readHearer_102 hl (k := 1) rfl (by rw [e_z821]; rfl) (by decide) rfl (fun ls hl => ?_)
              refine lv_goto (tgt := 23) hx hb dX12_readHearer_105 (by decide) ?_
              exact ih745 z821 z820 f817 (u815.1 1) (u815.1 2) (u815.1 3) (u815.1 4) (u815.1 5) (u815.1 6) _ _ ls (by omega) a_f817 (by omega) (by omega) (by omega) (by omega) (by omega) (by omega) (by omega) (by omega) (by omega) (by omega) (by omega) hP hD hS (lv_sub hl [0, 1, 2, 3] rfl)
  have kc0 : (0 : Int32).toInt = 0 := by decide
  exact lp744 _ (0 : Int32) (0 : Int32) mfresh (u4.1 1) (u4.1 2) (u4.1 3) (u4.1 4) (u4.1 5) (u4.1 6) _ _ ls (by decide) i_mfresh (by omega) (by omega) (by omega) (by omega) (by omega) (by omega) (by omega) (by omega) (by omega) (by omega) (Nat.lt_succ_self _) hP hD hS (lv_sub hl [0, 1, 2, 3] rfl)
set_option maxRecDepth 100000 in
set_option maxHeartbeats 4000000 in
theorem k_X12_readWord (l : Launch) (g : GG) (h0 : Nat) (a1 : Nat) (a2 : Nat) (a3 : Nat) (a4 : Nat) (a6 : Nat) (a14 : Nat) (a15 : Nat) (a19 : Nat) (a20 : Nat) (a23 : Nat) (a24 : Nat) (a25 : Nat) (a26 : Nat) (a27 : Nat) (a28 : Nat) (mthrown : Int32) (mtaped : Int32) (msize : Int32) (mat : Int32) (mfrom : Int32) (mtoken : Int32) (mvalue : Int32) (mfaultKind : Int32) (mfaultPlace : Int32) (mgoal : Int32) (mgoalDays : Int32) (mgoalHearer : Int32) (mleastOrder : Int32) (mwordsMany : Int32) (mtape : Nat → Int32) (mfresh : Nat → Int32) (i_mtaped : 0 ≤ mtaped.toInt ∧ mtaped.toInt ≤ 900) (i_msize : 0 ≤ msize.toInt ∧ msize.toInt ≤ 900) (i_mat : 0 ≤ mat.toInt ∧ mat.toInt ≤ 900) (i_mfrom : 0 ≤ mfrom.toInt ∧ mfrom.toInt ≤ 900) (i_mtoken : 0 ≤ mtoken.toInt ∧ mtoken.toInt ≤ 4) (i_mvalue : 0 ≤ mvalue.toInt ∧ mvalue.toInt ≤ 99999) (i_mfaultKind : 0 ≤ mfaultKind.toInt ∧ mfaultKind.toInt ≤ 3) (i_mgoalHearer : 0 ≤ mgoalHearer.toInt ∧ mgoalHearer.toInt ≤ 3) (i_mwordsMany : 0 ≤ mwordsMany.toInt ∧ mwordsMany.toInt ≤ 10) (i_mfresh : wok mfresh) (h6 : (mfresh 6).toInt ≤ 7) : Ct l g yX12_readWord cX12_readWord 4 none { frames := 8, cells := 0, slots := 0, locals := 174 } [.ref h0] [(h0, .inr (12, [.int mthrown, .ref a1, .ref a2, .ref a3, .ref a4, .int mtaped, .ref a6, .int msize, .int mat, .int mfrom, .int mtoken, .int mvalue, .int mfaultKind, .int mfaultPlace, .ref a14, .ref a15, .int mgoal, .int mgoalDays, .int mgoalHearer, .ref a19, .ref a20, .int mleastOrder, .int mwordsMany, .ref a23, .ref a24, .ref a25, .ref a26, .ref a27, .ref a28])), (a4, .inl (g.2 1, 900, .inl mtape)), (a14, .inl (g.2 0, 225, .inl mfresh))] (S := (Nat → Int32) × (Nat → Nat → Int32) × (Nat → Nat → Int64)) (fun _ => none) (fun u => (0 ≤ (u.1 1).toInt ∧ (u.1 1).toInt ≤ 900) ∧ (0 ≤ (u.1 2).toInt ∧ (u.1 2).toInt ≤ 900) ∧ (0 ≤ (u.1 3).toInt ∧ (u.1 3).toInt ≤ 4) ∧ (0 ≤ (u.1 4).toInt ∧ (u.1 4).toInt ≤ 99999) ∧ (0 ≤ (u.1 5).toInt ∧ (u.1 5).toInt ≤ 3) ∧ (wok (u.2.1 0)) ∧ (5 * mat.toInt - mtoken.toInt ≤ 5 * (u.1 1).toInt - (u.1 3).toInt) ∧ ((u.1 5).toInt = 0 → mfaultKind.toInt = 0) ∧ (((u.2.1 0) 0).toInt = (mfresh 0).toInt ∧ ((u.2.1 0) 2).toInt = (mfresh 2).toInt)) (fun u => [(h0, .inr (12, [.int mthrown, .ref a1, .ref a2, .ref a3, .ref a4, .int mtaped, .ref a6, .int msize, .int (u.1 1), .int (u.1 2), .int (u.1 3), .int (u.1 4), .int (u.1 5), .int (u.1 6), .ref a14, .ref a15, .int mgoal, .int mgoalDays, .int mgoalHearer, .ref a19, .ref a20, .int mleastOrder, .int mwordsMany, .ref a23, .ref a24, .ref a25, .ref a26, .ref a27, .ref a28])), (a4, .inl (g.2 1, 900, .inl mtape)), (a14, .inl (g.2 0, 225, .inl (u.2.1 0)))]) := by
  refine Ct.of (by decide) (Nat.le_of_ble_eq_true rfl) ?_
  intro p e s m below meth c A ls FX hP hD hS hl
  obtain ⟨FC, hr, hlk, hKn, hA, hnm, hZ⟩ := id FX
  have FC : CallFix p m c cX12_readWord 4 s _ BIG RX12 := FC
  obtain ⟨hx, hb, hml, hown, hB⟩ := id FC
  have hl : lv_has ls 4 [(0, .ref h0)] := hl
  refine lv_bipush (v := 55) hx hb dX12_readWord_0 (by decide) ?_
  refine lv_iconst (v := 2) hx hb dX12_readWord_2 (by decide) ?_
  refine lv_aload_n hx hb dX12_readWord_3 rfl (lv_at hl 0 rfl) ?_
  refine g_get (C := RX12) (T := TX12) (N := 29) (ci := 12) (v := .ref a14) FC hKn hP i_X12 0 rfl rfl 14 (by decide) b_1132 rfl dX12_readWord_4 ?_
  refine lv_bipush (v := 6) hx hb dX12_readWord_7 (by decide) ?_
  refine va_iald hx hb hKn.1 hP 2 0 rfl rfl (by unfold vp_in; decide) dX12_readWord_9 ?_
  have kc6 : (6 : Int32).toInt = 6 := by decide
  refine lv_topi (fun z1 e_z1 => ?_)
  have t_z1 : 0 ≤ z1.toInt ∧ z1.toInt ≤ 8 := by rw [e_z1]; exact wk_6 i_mfresh
  have q_z1 : z1.toInt = (mfresh 6).toInt := by rw [e_z1]; rfl
  refine lv_imul hx hb dX12_readWord_10 ?_
  have kc2 : (2 : Int32).toInt = 2 := by decide
  refine lv_topi (fun z2 e_z2 => ?_)
  have t_z2 : z2.toInt = 2 * z1.toInt := by rw [e_z2, fb_mulI (by rw [show (2 : Int32).toInt = 2 by decide]; omega) (by rw [show (2 : Int32).toInt = 2 by decide]; omega), show (2 : Int32).toInt = 2 by decide]
  refine lv_iadd hx hb dX12_readWord_11 ?_
  have kc55 : (55 : Int32).toInt = 55 := by decide
  refine lv_topi (fun z3 e_z3 => ?_)
  have t_z3 : z3.toInt = ((55 : Int32)).toInt + z2.toInt := by rw [e_z3]; exact fb_addI (by omega) (by omega)
  refine lv_istore_n (lv' := [(1, .int z3), (0, .ref h0)]) hx hb dX12_readWord_12 rfl hl (by decide) rfl (fun ls hl => ?_)
  refine lv_aload_n hx hb dX12_readWord_13 rfl (lv_at hl 1 rfl) ?_
  refine g_get (C := RX12) (T := TX12) (N := 29) (ci := 12) (v := .ref a14) FC hKn hP i_X12 0 rfl rfl 14 (by decide) b_1132 rfl dX12_readWord_14 ?_
  refine lv_iload_n hx hb dX12_readWord_17 rfl (lv_at hl 0 rfl) ?_
  refine lv_iconst (v := 0) hx hb dX12_readWord_18 (by decide) ?_
  refine lv_iadd hx hb dX12_readWord_19 ?_
  have kc0 : (0 : Int32).toInt = 0 := by decide
  refine lv_topi (fun z4 e_z4 => ?_)
  have t_z4 : z4.toInt = z3.toInt + ((0 : Int32)).toInt := by rw [e_z4]; exact fb_addI (by omega) (by omega)
  refine lv_aload_n hx hb dX12_readWord_20 rfl (lv_at hl 1 rfl) ?_
  refine va_ldcS hx hb hown (hZ.2.2 32 _ rfl).1 dX12_readWord_21 ?_
  refine lv_iconst (v := 0) hx hb dX12_readWord_23 (by decide) ?_
  refine lv_sipush (v := 999) hx hb dX12_readWord_24 (by decide) ?_
  have kc999 : (999 : Int32).toInt = 999 := by decide
  refine call_V (As := [.ref (sa g 32), .int 0, .int 999]) (rest := [.int z4, .ref a14]) (wr := [(a14, .inl (g.2 0, 225, .inl mfresh))]) FC hKn hZ (k_X12_told l g 32 h0 a1 a2 a3 a4 a6 a14 a15 a19 a20 a23 a24 a25 a26 a27 a28 mthrown mtaped msize mat mfrom mtoken mvalue mfaultKind mfaultPlace mgoal mgoalDays mgoalHearer mleastOrder mwordsMany mtape ((0 : Int32)) ((999 : Int32)) (by omega) (by omega) (by omega) (by omega) (by omega) (by omega) (by omega) (by omega) (by omega) (by omega)) m_yX12_told b_1151 (ci := 12) rfl rfl rfl hP hD hS hA [0, 1] [2] rfl (by decide) rfl (by decide) (by decide) rfl hl.1 rfl (Nat.le_of_ble_eq_true rfl) dX12_readWord_27 ⟨(Nat.le_of_ble_eq_true rfl), (Nat.le_of_ble_eq_true rfl)⟩ ⟨(Nat.le_of_ble_eq_true rfl), (Nat.le_of_ble_eq_true rfl)⟩ (fun u5 H locs q6 hP hD hS => ?_)
  obtain ⟨q6_0, q6_1, q6_2, q6_3, q6_4, q6_5, q6_6, q6_7, q6_8⟩ := q6
  have hP : va_P g.1 vwCl [(a14, .inl (g.2 0, 225, .inl mfresh)), (h0, .inr (12, [.int mthrown, .ref a1, .ref a2, .ref a3, .ref a4, .int mtaped, .ref a6, .int msize, .int (u5.1 1), .int (u5.1 2), .int (u5.1 3), .int (u5.1 4), .int (u5.1 5), .int (u5.1 6), .ref a14, .ref a15, .int mgoal, .int mgoalDays, .int mgoalHearer, .ref a19, .ref a20, .int mleastOrder, .int mwordsMany, .ref a23, .ref a24, .ref a25, .ref a26, .ref a27, .ref a28])), (a4, .inl (g.2 1, 900, .inl mtape))] H := hP
  have hD : va_D A [(a14, .inl (g.2 0, 225, .inl mfresh)), (h0, .inr (12, [.int mthrown, .ref a1, .ref a2, .ref a3, .ref a4, .int mtaped, .ref a6, .int msize, .int (u5.1 1), .int (u5.1 2), .int (u5.1 3), .int (u5.1 4), .int (u5.1 5), .int (u5.1 6), .ref a14, .ref a15, .int mgoal, .int mgoalDays, .int mgoalHearer, .ref a19, .ref a20, .int mleastOrder, .int mwordsMany, .ref a23, .ref a24, .ref a25, .ref a26, .ref a27, .ref a28])), (a4, .inl (g.2 1, 900, .inl mtape))] := hD
  refine W.eq (g2 := F0 m 30 ls [.int (u5.1 0), .int z4, .ref a14]) rfl ?_
  refine va_iast hx hb hKn.1 hP hD hS 0 0 rfl rfl (vp_in_iff.mpr ⟨by omega, by omega⟩) dX12_readWord_30 (fun H locs hP hD hS => ?_)
  have hP : va_P g.1 vwCl [(a14, .inl (g.2 0, 225, .inl (upd mfresh (z4.toNatClampNeg) (u5.1 0)))), (h0, .inr (12, [.int mthrown, .ref a1, .ref a2, .ref a3, .ref a4, .int mtaped, .ref a6, .int msize, .int (u5.1 1), .int (u5.1 2), .int (u5.1 3), .int (u5.1 4), .int (u5.1 5), .int (u5.1 6), .ref a14, .ref a15, .int mgoal, .int mgoalDays, .int mgoalHearer, .ref a19, .ref a20, .int mleastOrder, .int mwordsMany, .ref a23, .ref a24, .ref a25, .ref a26, .ref a27, .ref a28])), (a4, .inl (g.2 1, 900, .inl mtape))] H := hP
  have hD : va_D A [(a14, .inl (g.2 0, 225, .inl (upd mfresh (z4.toNatClampNeg) (u5.1 0)))), (h0, .inr (12, [.int mthrown, .ref a1, .ref a2, .ref a3, .ref a4, .int mtaped, .ref a6, .int msize, .int (u5.1 1), .int (u5.1 2), .int (u5.1 3), .int (u5.1 4), .int (u5.1 5), .int (u5.1 6), .ref a14, .ref a15, .int mgoal, .int mgoalDays, .int mgoalHearer, .ref a19, .ref a20, .int mleastOrder, .int mwordsMany, .ref a23, .ref a24, .ref a25, .ref a26, .ref a27, .ref a28])), (a4, .inl (g.2 1, 900, .inl mtape))] := hD
  have a_f7 : wok (upd mfresh (z4.toNatClampNeg) (u5.1 0)) := (wx_f i_mfresh (by omega) (by omega))
  generalize E_f7 : (upd mfresh (z4.toNatClampNeg) (u5.1 0) : Nat → Int32) = f7 at hP hD a_f7
  have g_f7_0 : (f7 0).toInt = (mfresh 0).toInt := by rw [← E_f7, uo (by have := cln (x := z4) (by omega); omega)]
  have g_f7_2 : (f7 2).toInt = (mfresh 2).toInt := by rw [← E_f7, uo (by have := cln (x := z4) (by omega); omega)]
  have g_f7_5 : (f7 5).toInt = (mfresh 5).toInt := by rw [← E_f7, uo (by have := cln (x := z4) (by omega); omega)]
  have g_f7_6 : (f7 6).toInt = (mfresh 6).toInt := by rw [← E_f7, uo (by have := cln (x := z4) (by omega); omega)]
  have g_f7_7 : (f7 7).toInt = (mfresh 7).toInt := by rw [← E_f7, uo (by have := cln (x := z4) (by omega); omega)]
  have g_f7_8 : (f7 8).toInt = (mfresh 8).toInt := by rw [← E_f7, uo (by have := cln (x := z4) (by omega); omega)]
  have g_f7_9 : (f7 9).toInt = (mfresh 9).toInt := by rw [← E_f7, uo (by have := cln (x := z4) (by omega); omega)]
  refine lv_aload_n hx hb dX12_readWord_31 rfl (lv_at hl 1 rfl) ?_
  refine va_ldcS hx hb hown (hZ.2.2 33 _ rfl).1 dX12_readWord_32 ?_
  refine call_V (As := [.ref (sa g 33)]) (rest := []) (wr := [(a14, .inl (g.2 0, 225, .inl f7))]) FC hKn hZ (k_X12_needs l g 33 h0 a1 a2 a3 a4 a6 a14 a15 a19 a20 a23 a24 a25 a26 a27 a28 mthrown mtaped msize (u5.1 1) (u5.1 2) (u5.1 3) (u5.1 4) (u5.1 5) (u5.1 6) mgoal mgoalDays mgoalHearer mleastOrder mwordsMany mtape (by omega) (by omega) (by omega) (by omega) (by omega) (by omega) (by omega) (by omega) (by omega) (by omega)) m_yX12_needs b_1130 (ci := 12) rfl rfl rfl hP hD hS hA [1, 2] [0] rfl (by decide) rfl (by decide) (by decide) rfl hl.1 rfl (Nat.le_of_ble_eq_true rfl) dX12_readWord_34 ⟨(Nat.le_of_ble_eq_true rfl), (Nat.le_of_ble_eq_true rfl)⟩ ⟨(Nat.le_of_ble_eq_true rfl), (Nat.le_of_ble_eq_true rfl)⟩ (fun u8 H locs q9 hP hD hS => ?_)
  obtain ⟨q9_0, q9_1, q9_2, q9_3, q9_4, q9_5, q9_6⟩ := q9
  have hP : va_P g.1 vwCl [(a14, .inl (g.2 0, 225, .inl f7)), (h0, .inr (12, [.int mthrown, .ref a1, .ref a2, .ref a3, .ref a4, .int mtaped, .ref a6, .int msize, .int (u8.1 1), .int (u8.1 2), .int (u8.1 3), .int (u8.1 4), .int (u8.1 5), .int (u8.1 6), .ref a14, .ref a15, .int mgoal, .int mgoalDays, .int mgoalHearer, .ref a19, .ref a20, .int mleastOrder, .int mwordsMany, .ref a23, .ref a24, .ref a25, .ref a26, .ref a27, .ref a28])), (a4, .inl (g.2 1, 900, .inl mtape))] H := hP
  have hD : va_D A [(a14, .inl (g.2 0, 225, .inl f7)), (h0, .inr (12, [.int mthrown, .ref a1, .ref a2, .ref a3, .ref a4, .int mtaped, .ref a6, .int msize, .int (u8.1 1), .int (u8.1 2), .int (u8.1 3), .int (u8.1 4), .int (u8.1 5), .int (u8.1 6), .ref a14, .ref a15, .int mgoal, .int mgoalDays, .int mgoalHearer, .ref a19, .ref a20, .int mleastOrder, .int mwordsMany, .ref a23, .ref a24, .ref a25, .ref a26, .ref a27, .ref a28])), (a4, .inl (g.2 1, 900, .inl mtape))] := hD
  refine W.eq (g2 := F0 m 37 ls []) rfl ?_
  refine lv_iconst (v := 0) hx hb dX12_readWord_37 (by decide) ?_
  refine lv_istore_n (lv' := [(2, .int 0), (1, .int z3), (0, .ref h0)]) hx hb dX12_readWord_38 rfl hl (by decide) rfl (fun ls hl => ?_)
  have lp52 : ∀ (n54 : Nat) (x43 : Int32) (x44 : Int32) (x45 : Int32) (x46 : Int32) (x47 : Int32) (x48 : Int32) (x49 : Int32) (H : Heap) (locs : List Loc) (ls : Array Slot), 0 ≤ x43.toInt ∧ x43.toInt ≤ 255 → 0 ≤ x44.toInt ∧ x44.toInt ≤ 900 → 0 ≤ x45.toInt ∧ x45.toInt ≤ 900 → 0 ≤ x46.toInt ∧ x46.toInt ≤ 4 → 0 ≤ x47.toInt ∧ x47.toInt ≤ 99999 → 0 ≤ x48.toInt ∧ x48.toInt ≤ 3 → 5 * mat.toInt - mtoken.toInt ≤ 5 * x44.toInt - x46.toInt → (x48.toInt = 0 → mfaultKind.toInt = 0) → (5 * (900 - x44.toInt) + x46.toInt).toNat < n54 → va_P g.1 vwCl [(a14, .inl (g.2 0, 225, .inl f7)), (h0, .inr (12, [.int mthrown, .ref a1, .ref a2, .ref a3, .ref a4, .int mtaped, .ref a6, .int msize, .int x44, .int x45, .int x46, .int x47, .int x48, .int x49, .ref a14, .ref a15, .int mgoal, .int mgoalDays, .int mgoalHearer, .ref a19, .ref a20, .int mleastOrder, .int mwordsMany, .ref a23, .ref a24, .ref a25, .ref a26, .ref a27, .ref a28])), (a4, .inl (g.2 1, 900, .inl mtape))] H → va_D A [(a14, .inl (g.2 0, 225, .inl f7)), (h0, .inr (12, [.int mthrown, .ref a1, .ref a2, .ref a3, .ref a4, .int mtaped, .ref a6, .int msize, .int x44, .int x45, .int x46, .int x47, .int x48, .int x49, .ref a14, .ref a15, .int mgoal, .int mgoalDays, .int mgoalHearer, .ref a19, .ref a20, .int mleastOrder, .int mwordsMany, .ref a23, .ref a24, .ref a25, .ref a26, .ref a27, .ref a28])), (a4, .inl (g.2 1, 900, .inl mtape))] → va_S A s.heap H locs → lv_has ls 4 [(2, .int x43), (1, .int z3), (0, .ref h0)] → W p l e { frames := 8, cells := 0, slots := 0, locals := 174 } s m ([.ref h0].toArray) below meth c H locs 0 0 (MQ below (QX (S := (Nat → Int32) × (Nat → Nat → Int32) × (Nat → Nat → Int64)) (fun _ => none) (fun u => (0 ≤ (u.1 1).toInt ∧ (u.1 1).toInt ≤ 900) ∧ (0 ≤ (u.1 2).toInt ∧ (u.1 2).toInt ≤ 900) ∧ (0 ≤ (u.1 3).toInt ∧ (u.1 3).toInt ≤ 4) ∧ (0 ≤ (u.1 4).toInt ∧ (u.1 4).toInt ≤ 99999) ∧ (0 ≤ (u.1 5).toInt ∧ (u.1 5).toInt ≤ 3) ∧ (wok (u.2.1 0)) ∧ (5 * mat.toInt - mtoken.toInt ≤ 5 * (u.1 1).toInt - (u.1 3).toInt) ∧ ((u.1 5).toInt = 0 → mfaultKind.toInt = 0) ∧ (((u.2.1 0) 0).toInt = (mfresh 0).toInt ∧ ((u.2.1 0) 2).toInt = (mfresh 2).toInt)) g (fun u => [(h0, .inr (12, [.int mthrown, .ref a1, .ref a2, .ref a3, .ref a4, .int mtaped, .ref a6, .int msize, .int (u.1 1), .int (u.1 2), .int (u.1 3), .int (u.1 4), .int (u.1 5), .int (u.1 6), .ref a14, .ref a15, .int mgoal, .int mgoalDays, .int mgoalHearer, .ref a19, .ref a20, .int mleastOrder, .int mwordsMany, .ref a23, .ref a24, .ref a25, .ref a26, .ref a27, .ref a28])), (a4, .inl (g.2 1, 900, .inl mtape)), (a14, .inl (g.2 0, 225, .inl (u.2.1 0)))]) A) ([.ref h0].toArray) s 0 0 A) (F0 m 39 ls []) := by
    intro n54
    induction n54 with
    | zero =>
      intro x43 x44 x45 x46 x47 x48 x49 H locs ls h_x43 h_x44 h_x45 h_x46 h_x47 h_x48 hi50 hi51 hn55
      exact absurd hn55 (Nat.not_lt_zero _)
    | succ n54 ih53 =>
      intro x43 x44 x45 x46 x47 x48 x49 H locs ls h_x43 h_x44 h_x45 h_x46 h_x47 h_x48 hi50 hi51 hn55 hP hD hS hl
      refine lv_aload_n hx hb dX12_readWord_39 rfl (lv_at hl 2 rfl) ?_
      refine call_V (As := []) (rest := []) (wr := []) FC hKn hZ (k_X12_freshState l g h0 a1 a2 a3 a4 a6 a14 a15 a19 a20 a23 a24 a25 a26 a27 a28 mthrown mtaped msize x44 x45 x46 x47 x48 x49 mgoal mgoalDays mgoalHearer mleastOrder mwordsMany mtape f7 (by omega) (by omega) (by omega) (by omega) (by omega) (by omega) (by omega) (by omega) (by omega) a_f7) m_yX12_freshState b_1152 (ci := 12) rfl rfl rfl hP hD hS hA [1, 2, 0] [] rfl (by decide) rfl (by decide) (by decide) rfl hl.1 rfl (Nat.le_of_ble_eq_true rfl) dX12_readWord_40 ⟨(Nat.le_of_ble_eq_true rfl), (Nat.le_of_ble_eq_true rfl)⟩ ⟨(Nat.le_of_ble_eq_true rfl), (Nat.le_of_ble_eq_true rfl)⟩ (fun u56 H locs q57 hP hD hS => ?_)
      obtain ⟨q57_0, q57_1, q57_2, q57_3, q57_4, q57_5, q57_6, q57_7, q57_8, q57_9⟩ := q57
      have hP : va_P g.1 vwCl [(h0, .inr (12, [.int mthrown, .ref a1, .ref a2, .ref a3, .ref a4, .int mtaped, .ref a6, .int msize, .int (u56.1 1), .int (u56.1 2), .int (u56.1 3), .int (u56.1 4), .int (u56.1 5), .int (u56.1 6), .ref a14, .ref a15, .int mgoal, .int mgoalDays, .int mgoalHearer, .ref a19, .ref a20, .int mleastOrder, .int mwordsMany, .ref a23, .ref a24, .ref a25, .ref a26, .ref a27, .ref a28])), (a4, .inl (g.2 1, 900, .inl mtape)), (a14, .inl (g.2 0, 225, .inl f7))] H := hP
      have hD : va_D A [(h0, .inr (12, [.int mthrown, .ref a1, .ref a2, .ref a3, .ref a4, .int mtaped, .ref a6, .int msize, .int (u56.1 1), .int (u56.1 2), .int (u56.1 3), .int (u56.1 4), .int (u56.1 5), .int (u56.1 6), .ref a14, .ref a15, .int mgoal, .int mgoalDays, .int mgoalHearer, .ref a19, .ref a20, .int mleastOrder, .int mwordsMany, .ref a23, .ref a24, .ref a25, .ref a26, .ref a27, .ref a28])), (a4, .inl (g.2 1, 900, .inl mtape)), (a14, .inl (g.2 0, 225, .inl f7))] := hD
      refine W.eq (g2 := F0 m 43 ls [.int (u56.1 0)]) rfl ?_
      refine lv_istore_n (lv' := [(3, .int (u56.1 0)), (2, .int x43), (1, .int z3), (0, .ref h0)]) hx hb dX12_readWord_43 rfl hl (by decide) rfl (fun ls hl => ?_)
      refine lv_aload_n hx hb dX12_readWord_44 rfl (lv_at hl 3 rfl) ?_
      refine call_V (As := []) (rest := []) (wr := [(a4, .inl (g.2 1, 900, .inl mtape)), (a14, .inl (g.2 0, 225, .inl f7))]) FC hKn hZ (k_X12_good l g h0 a1 a2 a3 a4 a6 a14 a15 a19 a20 a23 a24 a25 a26 a27 a28 mthrown mtaped msize (u56.1 1) (u56.1 2) (u56.1 3) (u56.1 4) (u56.1 5) (u56.1 6) mgoal mgoalDays mgoalHearer mleastOrder mwordsMany (by omega) (by omega) (by omega) (by omega) (by omega) (by omega) (by omega) (by omega) (by omega)) m_yX12_good b_1117 (ci := 12) rfl rfl rfl hP hD hS hA [0] [1, 2] rfl (by decide) rfl (by decide) (by decide) rfl hl.1 rfl (Nat.le_of_ble_eq_true rfl) dX12_readWord_45 ⟨(Nat.le_of_ble_eq_true rfl), (Nat.le_of_ble_eq_true rfl)⟩ ⟨(Nat.le_of_ble_eq_true rfl), (Nat.le_of_ble_eq_true rfl)⟩ (fun u58 H locs q59 hP hD hS => ?_)
      obtain ⟨q59_0, q59_1⟩ := q59
      have hP : va_P g.1 vwCl [(a4, .inl (g.2 1, 900, .inl mtape)), (a14, .inl (g.2 0, 225, .inl f7)), (h0, .inr (12, [.int mthrown, .ref a1, .ref a2, .ref a3, .ref a4, .int mtaped, .ref a6, .int msize, .int (u56.1 1), .int (u56.1 2), .int (u56.1 3), .int (u56.1 4), .int (u56.1 5), .int (u56.1 6), .ref a14, .ref a15, .int mgoal, .int mgoalDays, .int mgoalHearer, .ref a19, .ref a20, .int mleastOrder, .int mwordsMany, .ref a23, .ref a24, .ref a25, .ref a26, .ref a27, .ref a28]))] H := hP
      have hD : va_D A [(a4, .inl (g.2 1, 900, .inl mtape)), (a14, .inl (g.2 0, 225, .inl f7)), (h0, .inr (12, [.int mthrown, .ref a1, .ref a2, .ref a3, .ref a4, .int mtaped, .ref a6, .int msize, .int (u56.1 1), .int (u56.1 2), .int (u56.1 3), .int (u56.1 4), .int (u56.1 5), .int (u56.1 6), .ref a14, .ref a15, .int mgoal, .int mgoalDays, .int mgoalHearer, .ref a19, .ref a20, .int mleastOrder, .int mwordsMany, .ref a23, .ref a24, .ref a25, .ref a26, .ref a27, .ref a28]))] := hD
      refine W.eq (g2 := F0 m 48 ls [.int (u58.1 0)]) rfl ?_
      rcases (show (u56.1 5).toInt = 0 ∨ (u56.1 5).toInt ≠ 0 by omega) with c60 | c60
      · skip
        refine tp_i (v := 1) (Int32.toInt_inj.mp (show (u58.1 0).toInt = (1 : Int32).toInt by rw [show (1 : Int32).toInt = 1 by decide]; omega)) ?_
        refine lv_if_ne (tgt := 52) hx hb dX12_readWord_48 (by decide) (fun _ => ?_) (fun h => absurd h (by decide))
        refine lv_iload_n hx hb dX12_readWord_52 rfl (lv_at hl 1 rfl) ?_
        refine lv_iconst (v := 1) hx hb dX12_readWord_53 (by decide) ?_
        refine lv_iload_n hx hb dX12_readWord_54 rfl (lv_at hl 0 rfl) ?_
        refine lv_ishl hx hb dX12_readWord_55 ?_
        refine lv_topi (fun z61 e_z61 => ?_)
        have t_z61 : 1 ≤ z61.toInt ∧ z61.toInt ≤ 128 := by rw [e_z61]; exact shl_b (n := 7) (by omega) (by omega) (by decide)
        refine lv_ior hx hb dX12_readWord_56 ?_
        refine lv_topi (fun z62 e_z62 => ?_)
        have t_z62 : 0 ≤ z62.toInt ∧ z62.toInt < 256 := by rw [e_z62]; exact or_k (n := 256) 8 (by decide) (by decide) (by omega) (by omega) (by omega) (by omega)
        have op_z62 : 1 ≤ z62.toInt := by rw [e_z62]; exact or_p (by omega) (by omega)
        refine lv_istore_n (lv' := [(2, .int z62), (3, .int (u56.1 0)), (1, .int z3), (0, .ref h0)]) hx hb dX12_readWord_57 rfl hl (by decide) rfl (fun ls hl => ?_)
        refine lv_aload_n hx hb dX12_readWord_58 rfl (lv_at hl 3 rfl) ?_
        refine g_get (C := RX12) (T := TX12) (N := 29) (ci := 12) (v := .int (u56.1 3)) FC hKn hP i_X12 2 rfl rfl 10 (by decide) b_1114 rfl dX12_readWord_59 ?_
        refine lv_iconst (v := 3) hx hb dX12_readWord_62 (by decide) ?_
        refine lv_icmp_ne (tgt := 39) hx hb dX12_readWord_63 (by decide) (fun c63 => ?_) (fun c63 => ?_)
        · have c63 := k_ne (a := (u56.1 3).toInt) (b := 3) rfl (by decide) c63
          exact ih53 z62 (u56.1 1) (u56.1 2) (u56.1 3) (u56.1 4) (u56.1 5) (u56.1 6) _ _ ls (by omega) (by omega) (by omega) (by omega) (by omega) (by omega) (by omega) (by omega) (by omega) (hP.sub [1, 2, 0] rfl) (hD.sub [1, 2, 0] (by decide) rfl) hS (lv_sub hl [0, 2, 3] rfl)
        · have c63 := k_eq (a := (u56.1 3).toInt) (b := 3) rfl (by decide) c63
          refine lv_aload_n hx hb dX12_readWord_66 rfl (lv_at hl 3 rfl) ?_
          refine g_get (C := RX12) (T := TX12) (N := 29) (ci := 12) (v := .ref a14) FC hKn hP i_X12 2 rfl rfl 14 (by decide) b_1132 rfl dX12_readWord_67 ?_
          refine lv_iload_n hx hb dX12_readWord_70 rfl (lv_at hl 2 rfl) ?_
          refine lv_iconst (v := 1) hx hb dX12_readWord_71 (by decide) ?_
          refine lv_iadd hx hb dX12_readWord_72 ?_
          have kc1 : (1 : Int32).toInt = 1 := by decide
          refine lv_topi (fun z64 e_z64 => ?_)
          have t_z64 : z64.toInt = z3.toInt + ((1 : Int32)).toInt := by rw [e_z64]; exact fb_addI (by omega) (by omega)
          refine lv_iload_n hx hb dX12_readWord_73 rfl (lv_at hl 0 rfl) ?_
          refine va_iast hx hb hKn.1 hP hD hS 1 0 rfl rfl (vp_in_iff.mpr ⟨by omega, by omega⟩) dX12_readWord_74 (fun H locs hP hD hS => ?_)
          have hP : va_P g.1 vwCl [(a4, .inl (g.2 1, 900, .inl mtape)), (a14, .inl (g.2 0, 225, .inl (upd f7 (z64.toNatClampNeg) z62))), (h0, .inr (12, [.int mthrown, .ref a1, .ref a2, .ref a3, .ref a4, .int mtaped, .ref a6, .int msize, .int (u56.1 1), .int (u56.1 2), .int (u56.1 3), .int (u56.1 4), .int (u56.1 5), .int (u56.1 6), .ref a14, .ref a15, .int mgoal, .int mgoalDays, .int mgoalHearer, .ref a19, .ref a20, .int mleastOrder, .int mwordsMany, .ref a23, .ref a24, .ref a25, .ref a26, .ref a27, .ref a28]))] H := hP
          have hD : va_D A [(a4, .inl (g.2 1, 900, .inl mtape)), (a14, .inl (g.2 0, 225, .inl (upd f7 (z64.toNatClampNeg) z62))), (h0, .inr (12, [.int mthrown, .ref a1, .ref a2, .ref a3, .ref a4, .int mtaped, .ref a6, .int msize, .int (u56.1 1), .int (u56.1 2), .int (u56.1 3), .int (u56.1 4), .int (u56.1 5), .int (u56.1 6), .ref a14, .ref a15, .int mgoal, .int mgoalDays, .int mgoalHearer, .ref a19, .ref a20, .int mleastOrder, .int mwordsMany, .ref a23, .ref a24, .ref a25, .ref a26, .ref a27, .ref a28]))] := hD
          have a_f65 : wok (upd f7 (z64.toNatClampNeg) z62) := (wx_o a_f7 (by omega) (by omega))
          generalize E_f65 : (upd f7 (z64.toNatClampNeg) z62 : Nat → Int32) = f65 at hP hD a_f65
          have g_f65_0 : (f65 0).toInt = (f7 0).toInt := by rw [← E_f65, uo (by have := cln (x := z64) (by omega); omega)]
          have g_f65_2 : (f65 2).toInt = (f7 2).toInt := by rw [← E_f65, uo (by have := cln (x := z64) (by omega); omega)]
          have g_f65_5 : (f65 5).toInt = (f7 5).toInt := by rw [← E_f65, uo (by have := cln (x := z64) (by omega); omega)]
          have g_f65_6 : (f65 6).toInt = (f7 6).toInt := by rw [← E_f65, uo (by have := cln (x := z64) (by omega); omega)]
          have g_f65_7 : (f65 7).toInt = (f7 7).toInt := by rw [← E_f65, uo (by have := cln (x := z64) (by omega); omega)]
          have g_f65_8 : (f65 8).toInt = (f7 8).toInt := by rw [← E_f65, uo (by have := cln (x := z64) (by omega); omega)]
          have g_f65_9 : (f65 9).toInt = (f7 9).toInt := by rw [← E_f65, uo (by have := cln (x := z64) (by omega); omega)]
          refine lv_aload_n hx hb dX12_readWord_75 rfl (lv_at hl 3 rfl) ?_
          refine g_get (C := RX12) (T := TX12) (N := 29) (ci := 12) (v := .ref a14) FC hKn hP i_X12 2 rfl rfl 14 (by decide) b_1132 rfl dX12_readWord_76 ?_
          refine lv_bipush (v := 6) hx hb dX12_readWord_79 (by decide) ?_
          refine lv_dup2_11 hx hb dX12_readWord_81 rfl rfl ?_
          refine va_iald hx hb hKn.1 hP 1 0 rfl rfl (by unfold vp_in; decide) dX12_readWord_82 ?_
          refine lv_topi (fun z66 e_z66 => ?_)
          have t_z66 : 0 ≤ z66.toInt ∧ z66.toInt ≤ 8 := by rw [e_z66]; exact wk_6 a_f65
          have q_z66 : z66.toInt = (f65 6).toInt := by rw [e_z66]; rfl
          refine lv_iconst (v := 1) hx hb dX12_readWord_83 (by decide) ?_
          refine lv_iadd hx hb dX12_readWord_84 ?_
          refine lv_topi (fun z67 e_z67 => ?_)
          have t_z67 : z67.toInt = z66.toInt + ((1 : Int32)).toInt := by rw [e_z67]; exact fb_addI (by omega) (by omega)
          refine va_iast hx hb hKn.1 hP hD hS 1 0 rfl rfl (by unfold vp_in; decide) dX12_readWord_85 (fun H locs hP hD hS => ?_)
          have hP : va_P g.1 vwCl [(a4, .inl (g.2 1, 900, .inl mtape)), (a14, .inl (g.2 0, 225, .inl (upd f65 ((6 : Int32).toNatClampNeg) z67))), (h0, .inr (12, [.int mthrown, .ref a1, .ref a2, .ref a3, .ref a4, .int mtaped, .ref a6, .int msize, .int (u56.1 1), .int (u56.1 2), .int (u56.1 3), .int (u56.1 4), .int (u56.1 5), .int (u56.1 6), .ref a14, .ref a15, .int mgoal, .int mgoalDays, .int mgoalHearer, .ref a19, .ref a20, .int mleastOrder, .int mwordsMany, .ref a23, .ref a24, .ref a25, .ref a26, .ref a27, .ref a28]))] H := hP
          have hD : va_D A [(a4, .inl (g.2 1, 900, .inl mtape)), (a14, .inl (g.2 0, 225, .inl (upd f65 ((6 : Int32).toNatClampNeg) z67))), (h0, .inr (12, [.int mthrown, .ref a1, .ref a2, .ref a3, .ref a4, .int mtaped, .ref a6, .int msize, .int (u56.1 1), .int (u56.1 2), .int (u56.1 3), .int (u56.1 4), .int (u56.1 5), .int (u56.1 6), .ref a14, .ref a15, .int mgoal, .int mgoalDays, .int mgoalHearer, .ref a19, .ref a20, .int mleastOrder, .int mwordsMany, .ref a23, .ref a24, .ref a25, .ref a26, .ref a27, .ref a28]))] := hD
          have a_f68 : wok (upd f65 ((6 : Int32).toNatClampNeg) z67) := (wk_u6 a_f65 (by omega) (by omega) (by rw [← E_f65, show 56 + 2 * (upd f7 (z64.toNatClampNeg) z62 6).toInt.toNat = z64.toNatClampNeg from (ixe (by have q9 : (upd f7 (z64.toNatClampNeg) z62 6).toInt = (f65 6).toInt := by rw [E_f65]; omega)).symm, pk_us]; omega))
          generalize E_f68 : (upd f65 ((6 : Int32).toNatClampNeg) z67 : Nat → Int32) = f68 at hP hD a_f68
          have g_f68_0 : (f68 0).toInt = (f65 0).toInt := by rw [← E_f68]; exact congrArg Int32.toInt (uo (k := 6) (by decide))
          have g_f68_2 : (f68 2).toInt = (f65 2).toInt := by rw [← E_f68]; exact congrArg Int32.toInt (uo (k := 6) (by decide))
          have g_f68_5 : (f68 5).toInt = (f65 5).toInt := by rw [← E_f68]; exact congrArg Int32.toInt (uo (k := 6) (by decide))
          have g_f68_6 : (f68 6).toInt = z67.toInt := by rw [← E_f68]; exact congrArg Int32.toInt (pk_us (k := 6))
          have g_f68_7 : (f68 7).toInt = (f65 7).toInt := by rw [← E_f68]; exact congrArg Int32.toInt (uo (k := 6) (by decide))
          have g_f68_8 : (f68 8).toInt = (f65 8).toInt := by rw [← E_f68]; exact congrArg Int32.toInt (uo (k := 6) (by decide))
          have g_f68_9 : (f68 9).toInt = (f65 9).toInt := by rw [← E_f68]; exact congrArg Int32.toInt (uo (k := 6) (by decide))
          exact rt_v FX ((fun k => match k with | 0 => 0 | 1 => u56.1 1 | 2 => u56.1 2 | 3 => u56.1 3 | 4 => u56.1 4 | 5 => u56.1 5 | 6 => u56.1 6 | _ => 0), (fun k => match k with | 0 => f68 | _ => fun _ => 0), (fun _ => fun _ => 0)) rfl ⟨(show 0 ≤ (u56.1 1).toInt ∧ (u56.1 1).toInt ≤ 900 by omega), (show 0 ≤ (u56.1 2).toInt ∧ (u56.1 2).toInt ≤ 900 by omega), (show 0 ≤ (u56.1 3).toInt ∧ (u56.1 3).toInt ≤ 4 by omega), (show 0 ≤ (u56.1 4).toInt ∧ (u56.1 4).toInt ≤ 99999 by omega), (show 0 ≤ (u56.1 5).toInt ∧ (u56.1 5).toInt ≤ 3 by omega), a_f68, (show 5 * mat.toInt - mtoken.toInt ≤ 5 * (u56.1 1).toInt - (u56.1 3).toInt by omega), (show (u56.1 5).toInt = 0 → mfaultKind.toInt = 0 by omega), (show ((f68) 0).toInt = (mfresh 0).toInt ∧ ((f68) 2).toInt = (mfresh 2).toInt from (show (f68 0).toInt = (mfresh 0).toInt ∧ (f68 2).toInt = (mfresh 2).toInt by omega))⟩ (hP.sub [2, 0, 1] rfl) (hD.sub [2, 0, 1] (by decide) rfl) hS (Nat.le_of_ble_eq_true rfl) (Nat.le_of_ble_eq_true rfl) dX12_readWord_86
      · skip
        refine tp_i (v := 0) (Int32.toInt_inj.mp (show (u58.1 0).toInt = (0 : Int32).toInt by rw [show (0 : Int32).toInt = 0 by decide]; omega)) ?_
        refine lv_if_ne (tgt := 52) hx hb dX12_readWord_48 (by decide) (fun h => absurd h (by decide)) (fun _ => ?_)
        exact rt_v FX ((fun k => match k with | 0 => 0 | 1 => u56.1 1 | 2 => u56.1 2 | 3 => u56.1 3 | 4 => u56.1 4 | 5 => u56.1 5 | 6 => u56.1 6 | _ => 0), (fun k => match k with | 0 => f7 | _ => fun _ => 0), (fun _ => fun _ => 0)) rfl ⟨(show 0 ≤ (u56.1 1).toInt ∧ (u56.1 1).toInt ≤ 900 by omega), (show 0 ≤ (u56.1 2).toInt ∧ (u56.1 2).toInt ≤ 900 by omega), (show 0 ≤ (u56.1 3).toInt ∧ (u56.1 3).toInt ≤ 4 by omega), (show 0 ≤ (u56.1 4).toInt ∧ (u56.1 4).toInt ≤ 99999 by omega), (show 0 ≤ (u56.1 5).toInt ∧ (u56.1 5).toInt ≤ 3 by omega), a_f7, (show 5 * mat.toInt - mtoken.toInt ≤ 5 * (u56.1 1).toInt - (u56.1 3).toInt by omega), (show (u56.1 5).toInt = 0 → mfaultKind.toInt = 0 by omega), (show ((f7) 0).toInt = (mfresh 0).toInt ∧ ((f7) 2).toInt = (mfresh 2).toInt from (show (f7 0).toInt = (mfresh 0).toInt ∧ (f7 2).toInt = (mfresh 2).toInt by omega))⟩ (hP.sub [2, 0, 1] rfl) (hD.sub [2, 0, 1] (by decide) rfl) hS (Nat.le_of_ble_eq_true rfl) (Nat.le_of_ble_eq_true rfl) dX12_readWord_51
  exact lp52 _ (0 : Int32) (u8.1 1) (u8.1 2) (u8.1 3) (u8.1 4) (u8.1 5) (u8.1 6) _ _ ls (by decide) (by omega) (by omega) (by omega) (by omega) (by omega) (by omega) (by omega) (Nat.lt_succ_self _) hP hD hS (lv_sub hl [0, 1, 2] rfl)
set_option maxRecDepth 100000 in
set_option maxHeartbeats 4000000 in
theorem k_X12_readPlan (l : Launch) (g : GG) (h0 : Nat) (a1 : Nat) (a2 : Nat) (a3 : Nat) (a4 : Nat) (a6 : Nat) (a14 : Nat) (a15 : Nat) (a19 : Nat) (a20 : Nat) (a23 : Nat) (a24 : Nat) (a25 : Nat) (a26 : Nat) (a27 : Nat) (a28 : Nat) (mthrown : Int32) (mtaped : Int32) (msize : Int32) (mat : Int32) (mfrom : Int32) (mtoken : Int32) (mvalue : Int32) (mfaultKind : Int32) (mfaultPlace : Int32) (mgoal : Int32) (mgoalDays : Int32) (mgoalHearer : Int32) (mleastOrder : Int32) (mwordsMany : Int32) (mtape : Nat → Int32) (mfresh : Nat → Int32) (i_mtaped : 0 ≤ mtaped.toInt ∧ mtaped.toInt ≤ 900) (i_msize : 0 ≤ msize.toInt ∧ msize.toInt ≤ 900) (i_mat : 0 ≤ mat.toInt ∧ mat.toInt ≤ 900) (i_mfrom : 0 ≤ mfrom.toInt ∧ mfrom.toInt ≤ 900) (i_mtoken : 0 ≤ mtoken.toInt ∧ mtoken.toInt ≤ 4) (i_mvalue : 0 ≤ mvalue.toInt ∧ mvalue.toInt ≤ 99999) (i_mfaultKind : 0 ≤ mfaultKind.toInt ∧ mfaultKind.toInt ≤ 3) (i_mgoalHearer : 0 ≤ mgoalHearer.toInt ∧ mgoalHearer.toInt ≤ 3) (i_mwordsMany : 0 ≤ mwordsMany.toInt ∧ mwordsMany.toInt ≤ 10) (i_mfresh : wok mfresh) (h7 : (mfresh 7).toInt ≤ 3) : Ct l g yX12_readPlan cX12_readPlan 4 none { frames := 3, cells := 0, slots := 0, locals := 69 } [.ref h0] [(h0, .inr (12, [.int mthrown, .ref a1, .ref a2, .ref a3, .ref a4, .int mtaped, .ref a6, .int msize, .int mat, .int mfrom, .int mtoken, .int mvalue, .int mfaultKind, .int mfaultPlace, .ref a14, .ref a15, .int mgoal, .int mgoalDays, .int mgoalHearer, .ref a19, .ref a20, .int mleastOrder, .int mwordsMany, .ref a23, .ref a24, .ref a25, .ref a26, .ref a27, .ref a28])), (a4, .inl (g.2 1, 900, .inl mtape)), (a14, .inl (g.2 0, 225, .inl mfresh))] (S := (Nat → Int32) × (Nat → Nat → Int32) × (Nat → Nat → Int64)) (fun _ => none) (fun u => (0 ≤ (u.1 1).toInt ∧ (u.1 1).toInt ≤ 900) ∧ (0 ≤ (u.1 2).toInt ∧ (u.1 2).toInt ≤ 900) ∧ (0 ≤ (u.1 3).toInt ∧ (u.1 3).toInt ≤ 4) ∧ (0 ≤ (u.1 4).toInt ∧ (u.1 4).toInt ≤ 99999) ∧ (0 ≤ (u.1 5).toInt ∧ (u.1 5).toInt ≤ 3) ∧ (wok (u.2.1 0)) ∧ (5 * mat.toInt - mtoken.toInt ≤ 5 * (u.1 1).toInt - (u.1 3).toInt) ∧ ((u.1 5).toInt = 0 → mfaultKind.toInt = 0) ∧ (((u.2.1 0) 0).toInt = (mfresh 0).toInt ∧ ((u.2.1 0) 2).toInt = (mfresh 2).toInt)) (fun u => [(h0, .inr (12, [.int mthrown, .ref a1, .ref a2, .ref a3, .ref a4, .int mtaped, .ref a6, .int msize, .int (u.1 1), .int (u.1 2), .int (u.1 3), .int (u.1 4), .int (u.1 5), .int (u.1 6), .ref a14, .ref a15, .int mgoal, .int mgoalDays, .int mgoalHearer, .ref a19, .ref a20, .int mleastOrder, .int mwordsMany, .ref a23, .ref a24, .ref a25, .ref a26, .ref a27, .ref a28])), (a4, .inl (g.2 1, 900, .inl mtape)), (a14, .inl (g.2 0, 225, .inl (u.2.1 0)))]) := by
  refine Ct.of (by decide) (Nat.le_of_ble_eq_true rfl) ?_
  intro p e s m below meth c A ls FX hP hD hS hl
  obtain ⟨FC, hr, hlk, hKn, hA, hnm, hZ⟩ := id FX
  have FC : CallFix p m c cX12_readPlan 4 s _ BIG RX12 := FC
  obtain ⟨hx, hb, hml, hown, hB⟩ := id FC
  have hl : lv_has ls 4 [(0, .ref h0)] := hl
  refine lv_bipush (v := 71) hx hb dX12_readPlan_0 (by decide) ?_
  refine lv_bipush (v := 6) hx hb dX12_readPlan_2 (by decide) ?_
  refine lv_aload_n hx hb dX12_readPlan_4 rfl (lv_at hl 0 rfl) ?_
  refine g_get (C := RX12) (T := TX12) (N := 29) (ci := 12) (v := .ref a14) FC hKn hP i_X12 0 rfl rfl 14 (by decide) b_1132 rfl dX12_readPlan_5 ?_
  refine lv_bipush (v := 7) hx hb dX12_readPlan_8 (by decide) ?_
  refine va_iald hx hb hKn.1 hP 2 0 rfl rfl (by unfold vp_in; decide) dX12_readPlan_10 ?_
  have kc7 : (7 : Int32).toInt = 7 := by decide
  refine lv_topi (fun z1 e_z1 => ?_)
  have t_z1 : 0 ≤ z1.toInt ∧ z1.toInt ≤ 4 := by rw [e_z1]; exact wk_7 i_mfresh
  have q_z1 : z1.toInt = (mfresh 7).toInt := by rw [e_z1]; rfl
  refine lv_imul hx hb dX12_readPlan_11 ?_
  have kc6 : (6 : Int32).toInt = 6 := by decide
  refine lv_topi (fun z2 e_z2 => ?_)
  have t_z2 : z2.toInt = 6 * z1.toInt := by rw [e_z2, fb_mulI (by rw [show (6 : Int32).toInt = 6 by decide]; omega) (by rw [show (6 : Int32).toInt = 6 by decide]; omega), show (6 : Int32).toInt = 6 by decide]
  refine lv_iadd hx hb dX12_readPlan_12 ?_
  have kc71 : (71 : Int32).toInt = 71 := by decide
  refine lv_topi (fun z3 e_z3 => ?_)
  have t_z3 : z3.toInt = ((71 : Int32)).toInt + z2.toInt := by rw [e_z3]; exact fb_addI (by omega) (by omega)
  refine lv_istore_n (lv' := [(1, .int z3), (0, .ref h0)]) hx hb dX12_readPlan_13 rfl hl (by decide) rfl (fun ls hl => ?_)
  refine lv_iconst (v := 0) hx hb dX12_readPlan_14 (by decide) ?_
  refine lv_istore_n (lv' := [(2, .int 0), (1, .int z3), (0, .ref h0)]) hx hb dX12_readPlan_15 rfl hl (by decide) rfl (fun ls hl => ?_)
  have lp129 : ∀ (n131 : Nat) (x114 : Int32) (x115 : Int32) (x116 : Int32) (x117 : Int32) (x118 : Int32) (x119 : Int32) (x120 : Int32) (x121 : Nat → Int32) (H : Heap) (locs : List Loc) (ls : Array Slot), 0 ≤ x114.toInt ∧ x114.toInt ≤ 5 → 0 ≤ x115.toInt ∧ x115.toInt ≤ 900 → 0 ≤ x116.toInt ∧ x116.toInt ≤ 900 → 0 ≤ x117.toInt ∧ x117.toInt ≤ 4 → 0 ≤ x118.toInt ∧ x118.toInt ≤ 99999 → 0 ≤ x119.toInt ∧ x119.toInt ≤ 3 → wok x121 → plw x121 (mfresh 7).toInt.toNat x114.toInt → 5 * mat.toInt - mtoken.toInt ≤ 5 * x115.toInt - x117.toInt → (x119.toInt = 0 → mfaultKind.toInt = 0) → (x121 0).toInt = (mfresh 0).toInt → (x121 2).toInt = (mfresh 2).toInt → (x121 6).toInt = (mfresh 6).toInt → (x121 7).toInt = (mfresh 7).toInt → (5 * (900 - x115.toInt) + x117.toInt).toNat < n131 → va_P g.1 vwCl [(h0, .inr (12, [.int mthrown, .ref a1, .ref a2, .ref a3, .ref a4, .int mtaped, .ref a6, .int msize, .int x115, .int x116, .int x117, .int x118, .int x119, .int x120, .ref a14, .ref a15, .int mgoal, .int mgoalDays, .int mgoalHearer, .ref a19, .ref a20, .int mleastOrder, .int mwordsMany, .ref a23, .ref a24, .ref a25, .ref a26, .ref a27, .ref a28])), (a4, .inl (g.2 1, 900, .inl mtape)), (a14, .inl (g.2 0, 225, .inl x121))] H → va_D A [(h0, .inr (12, [.int mthrown, .ref a1, .ref a2, .ref a3, .ref a4, .int mtaped, .ref a6, .int msize, .int x115, .int x116, .int x117, .int x118, .int x119, .int x120, .ref a14, .ref a15, .int mgoal, .int mgoalDays, .int mgoalHearer, .ref a19, .ref a20, .int mleastOrder, .int mwordsMany, .ref a23, .ref a24, .ref a25, .ref a26, .ref a27, .ref a28])), (a4, .inl (g.2 1, 900, .inl mtape)), (a14, .inl (g.2 0, 225, .inl x121))] → va_S A s.heap H locs → lv_has ls 4 [(2, .int x114), (1, .int z3), (0, .ref h0)] → W p l e { frames := 3, cells := 0, slots := 0, locals := 69 } s m ([.ref h0].toArray) below meth c H locs 0 0 (MQ below (QX (S := (Nat → Int32) × (Nat → Nat → Int32) × (Nat → Nat → Int64)) (fun _ => none) (fun u => (0 ≤ (u.1 1).toInt ∧ (u.1 1).toInt ≤ 900) ∧ (0 ≤ (u.1 2).toInt ∧ (u.1 2).toInt ≤ 900) ∧ (0 ≤ (u.1 3).toInt ∧ (u.1 3).toInt ≤ 4) ∧ (0 ≤ (u.1 4).toInt ∧ (u.1 4).toInt ≤ 99999) ∧ (0 ≤ (u.1 5).toInt ∧ (u.1 5).toInt ≤ 3) ∧ (wok (u.2.1 0)) ∧ (5 * mat.toInt - mtoken.toInt ≤ 5 * (u.1 1).toInt - (u.1 3).toInt) ∧ ((u.1 5).toInt = 0 → mfaultKind.toInt = 0) ∧ (((u.2.1 0) 0).toInt = (mfresh 0).toInt ∧ ((u.2.1 0) 2).toInt = (mfresh 2).toInt)) g (fun u => [(h0, .inr (12, [.int mthrown, .ref a1, .ref a2, .ref a3, .ref a4, .int mtaped, .ref a6, .int msize, .int (u.1 1), .int (u.1 2), .int (u.1 3), .int (u.1 4), .int (u.1 5), .int (u.1 6), .ref a14, .ref a15, .int mgoal, .int mgoalDays, .int mgoalHearer, .ref a19, .ref a20, .int mleastOrder, .int mwordsMany, .ref a23, .ref a24, .ref a25, .ref a26, .ref a27, .ref a28])), (a4, .inl (g.2 1, 900, .inl mtape)), (a14, .inl (g.2 0, 225, .inl (u.2.1 0)))]) A) ([.ref h0].toArray) s 0 0 A) (F0 m 16 ls []) := by
    intro n131
    induction n131 with
    | zero =>
      intro x114 x115 x116 x117 x118 x119 x120 x121 H locs ls h_x114 h_x115 h_x116 h_x117 h_x118 h_x119 h_x121 hi122 hi123 hi124 hi125 hi126 hi127 hi128 hn132
      exact absurd hn132 (Nat.not_lt_zero _)
    | succ n131 ih130 =>
      intro x114 x115 x116 x117 x118 x119 x120 x121 H locs ls h_x114 h_x115 h_x116 h_x117 h_x118 h_x119 h_x121 hi122 hi123 hi124 hi125 hi126 hi127 hi128 hn132 hP hD hS hl
      refine lv_iload_n hx hb dX12_readPlan_16 rfl (lv_at hl 0 rfl) ?_
      refine lv_iconst (v := 5) hx hb dX12_readPlan_17 (by decide) ?_
      refine lv_icmp_ne (tgt := 55) hx hb dX12_readPlan_18 (by decide) (fun c133 => ?_) (fun c133 => ?_)
      · have c133 := k_ne (a := x114.toInt) (b := 5) rfl (by decide) c133
        refine lv_aload_n hx hb dX12_readPlan_55 rfl (lv_at hl 2 rfl) ?_
        refine lv_iconst (v := 0) hx hb dX12_readPlan_56 (by decide) ?_
        refine lv_aload_n hx hb dX12_readPlan_57 rfl (lv_at hl 2 rfl) ?_
        refine g_get (C := RX12) (T := TX12) (N := 29) (ci := 12) (v := .ref a14) FC hKn hP i_X12 0 rfl rfl 14 (by decide) b_1132 rfl dX12_readPlan_58 ?_
        refine lv_bipush (v := 6) hx hb dX12_readPlan_61 (by decide) ?_
        refine va_iald hx hb hKn.1 hP 2 0 rfl rfl (by unfold vp_in; decide) dX12_readPlan_63 ?_
        refine lv_topi (fun z134 e_z134 => ?_)
        have t_z134 : 0 ≤ z134.toInt ∧ z134.toInt ≤ 8 := by rw [e_z134]; exact wk_6 h_x121
        have q_z134 : z134.toInt = (x121 6).toInt := by rw [e_z134]; rfl
        refine lv_iconst (v := 1) hx hb dX12_readPlan_64 (by decide) ?_
        refine lv_isub hx hb dX12_readPlan_65 ?_
        have kc1 : (1 : Int32).toInt = 1 := by decide
        refine lv_topi (fun z135 e_z135 => ?_)
        have t_z135 : z135.toInt = z134.toInt - ((1 : Int32)).toInt := by rw [e_z135]; exact fb_subI (by omega) (by omega)
        have kc0 : (0 : Int32).toInt = 0 := by decide
        refine call_V (As := [.int 0, .int z135]) (rest := []) (wr := [(a14, .inl (g.2 0, 225, .inl x121))]) FC hKn hZ (k_X12_number l g h0 a1 a2 a3 a4 a6 a14 a15 a19 a20 a23 a24 a25 a26 a27 a28 mthrown mtaped msize x115 x116 x117 x118 x119 x120 mgoal mgoalDays mgoalHearer mleastOrder mwordsMany mtape ((0 : Int32)) z135 (by omega) (by omega) (by omega) (by omega) (by omega) (by omega) (by omega) (by omega) (by omega)) m_yX12_number b_1131 (ci := 12) rfl rfl rfl hP hD hS hA [0, 1] [2] rfl (by decide) rfl (by decide) (by decide) rfl hl.1 rfl (Nat.le_of_ble_eq_true rfl) dX12_readPlan_66 ⟨(Nat.le_of_ble_eq_true rfl), (Nat.le_of_ble_eq_true rfl)⟩ ⟨(Nat.le_of_ble_eq_true rfl), (Nat.le_of_ble_eq_true rfl)⟩ (fun u136 H locs q137 hP hD hS => ?_)
        obtain ⟨q137_0, q137_1, q137_2, q137_3, q137_4, q137_5, q137_6, q137_7, q137_8, q137_9⟩ := q137
        have hP : va_P g.1 vwCl [(a14, .inl (g.2 0, 225, .inl x121)), (h0, .inr (12, [.int mthrown, .ref a1, .ref a2, .ref a3, .ref a4, .int mtaped, .ref a6, .int msize, .int (u136.1 1), .int (u136.1 2), .int (u136.1 3), .int (u136.1 4), .int (u136.1 5), .int (u136.1 6), .ref a14, .ref a15, .int mgoal, .int mgoalDays, .int mgoalHearer, .ref a19, .ref a20, .int mleastOrder, .int mwordsMany, .ref a23, .ref a24, .ref a25, .ref a26, .ref a27, .ref a28])), (a4, .inl (g.2 1, 900, .inl mtape))] H := hP
        have hD : va_D A [(a14, .inl (g.2 0, 225, .inl x121)), (h0, .inr (12, [.int mthrown, .ref a1, .ref a2, .ref a3, .ref a4, .int mtaped, .ref a6, .int msize, .int (u136.1 1), .int (u136.1 2), .int (u136.1 3), .int (u136.1 4), .int (u136.1 5), .int (u136.1 6), .ref a14, .ref a15, .int mgoal, .int mgoalDays, .int mgoalHearer, .ref a19, .ref a20, .int mleastOrder, .int mwordsMany, .ref a23, .ref a24, .ref a25, .ref a26, .ref a27, .ref a28])), (a4, .inl (g.2 1, 900, .inl mtape))] := hD
        refine W.eq (g2 := F0 m 69 ls [.int (u136.1 0)]) rfl ?_
        refine lv_istore_n (lv' := [(3, .int (u136.1 0)), (2, .int x114), (1, .int z3), (0, .ref h0)]) hx hb dX12_readPlan_69 rfl hl (by decide) rfl (fun ls hl => ?_)
        refine lv_aload_n hx hb dX12_readPlan_70 rfl (lv_at hl 3 rfl) ?_
        refine call_V (As := []) (rest := []) (wr := [(a14, .inl (g.2 0, 225, .inl x121)), (a4, .inl (g.2 1, 900, .inl mtape))]) FC hKn hZ (k_X12_good l g h0 a1 a2 a3 a4 a6 a14 a15 a19 a20 a23 a24 a25 a26 a27 a28 mthrown mtaped msize (u136.1 1) (u136.1 2) (u136.1 3) (u136.1 4) (u136.1 5) (u136.1 6) mgoal mgoalDays mgoalHearer mleastOrder mwordsMany (by omega) (by omega) (by omega) (by omega) (by omega) (by omega) (by omega) (by omega) (by omega)) m_yX12_good b_1117 (ci := 12) rfl rfl rfl hP hD hS hA [1] [0, 2] rfl (by decide) rfl (by decide) (by decide) rfl hl.1 rfl (Nat.le_of_ble_eq_true rfl) dX12_readPlan_71 ⟨(Nat.le_of_ble_eq_true rfl), (Nat.le_of_ble_eq_true rfl)⟩ ⟨(Nat.le_of_ble_eq_true rfl), (Nat.le_of_ble_eq_true rfl)⟩ (fun u138 H locs q139 hP hD hS => ?_)
        obtain ⟨q139_0, q139_1⟩ := q139
        have hP : va_P g.1 vwCl [(a14, .inl (g.2 0, 225, .inl x121)), (a4, .inl (g.2 1, 900, .inl mtape)), (h0, .inr (12, [.int mthrown, .ref a1, .ref a2, .ref a3, .ref a4, .int mtaped, .ref a6, .int msize, .int (u136.1 1), .int (u136.1 2), .int (u136.1 3), .int (u136.1 4), .int (u136.1 5), .int (u136.1 6), .ref a14, .ref a15, .int mgoal, .int mgoalDays, .int mgoalHearer, .ref a19, .ref a20, .int mleastOrder, .int mwordsMany, .ref a23, .ref a24, .ref a25, .ref a26, .ref a27, .ref a28]))] H := hP
        have hD : va_D A [(a14, .inl (g.2 0, 225, .inl x121)), (a4, .inl (g.2 1, 900, .inl mtape)), (h0, .inr (12, [.int mthrown, .ref a1, .ref a2, .ref a3, .ref a4, .int mtaped, .ref a6, .int msize, .int (u136.1 1), .int (u136.1 2), .int (u136.1 3), .int (u136.1 4), .int (u136.1 5), .int (u136.1 6), .ref a14, .ref a15, .int mgoal, .int mgoalDays, .int mgoalHearer, .ref a19, .ref a20, .int mleastOrder, .int mwordsMany, .ref a23, .ref a24, .ref a25, .ref a26, .ref a27, .ref a28]))] := hD
        refine W.eq (g2 := F0 m 74 ls [.int (u138.1 0)]) rfl ?_
        rcases (show (u136.1 5).toInt = 0 ∨ (u136.1 5).toInt ≠ 0 by omega) with c140 | c140
        · skip
          refine tp_i (v := 1) (Int32.toInt_inj.mp (show (u138.1 0).toInt = (1 : Int32).toInt by rw [show (1 : Int32).toInt = 1 by decide]; omega)) ?_
          refine lv_if_ne (tgt := 78) hx hb dX12_readPlan_74 (by decide) (fun _ => ?_) (fun h => absurd h (by decide))
          refine lv_aload_n hx hb dX12_readPlan_78 rfl (lv_at hl 3 rfl) ?_
          refine g_get (C := RX12) (T := TX12) (N := 29) (ci := 12) (v := .ref a14) FC hKn hP i_X12 2 rfl rfl 14 (by decide) b_1132 rfl dX12_readPlan_79 ?_
          refine lv_iload_n hx hb dX12_readPlan_82 rfl (lv_at hl 2 rfl) ?_
          refine lv_iconst (v := 1) hx hb dX12_readPlan_83 (by decide) ?_
          refine lv_iadd hx hb dX12_readPlan_84 ?_
          refine lv_topi (fun z141 e_z141 => ?_)
          have t_z141 : z141.toInt = z3.toInt + ((1 : Int32)).toInt := by rw [e_z141]; exact fb_addI (by omega) (by omega)
          refine lv_iload_n hx hb dX12_readPlan_85 rfl (lv_at hl 1 rfl) ?_
          refine lv_iadd hx hb dX12_readPlan_86 ?_
          refine lv_topi (fun z142 e_z142 => ?_)
          have t_z142 : z142.toInt = z141.toInt + x114.toInt := by rw [e_z142]; exact fb_addI (by omega) (by omega)
          refine lv_iload_n hx hb dX12_readPlan_87 rfl (lv_at hl 0 rfl) ?_
          refine va_iast hx hb hKn.1 hP hD hS 0 0 rfl rfl (vp_in_iff.mpr ⟨by omega, by omega⟩) dX12_readPlan_88 (fun H locs hP hD hS => ?_)
          have hP : va_P g.1 vwCl [(a14, .inl (g.2 0, 225, .inl (upd x121 (z142.toNatClampNeg) (u136.1 0)))), (a4, .inl (g.2 1, 900, .inl mtape)), (h0, .inr (12, [.int mthrown, .ref a1, .ref a2, .ref a3, .ref a4, .int mtaped, .ref a6, .int msize, .int (u136.1 1), .int (u136.1 2), .int (u136.1 3), .int (u136.1 4), .int (u136.1 5), .int (u136.1 6), .ref a14, .ref a15, .int mgoal, .int mgoalDays, .int mgoalHearer, .ref a19, .ref a20, .int mleastOrder, .int mwordsMany, .ref a23, .ref a24, .ref a25, .ref a26, .ref a27, .ref a28]))] H := hP
          have hD : va_D A [(a14, .inl (g.2 0, 225, .inl (upd x121 (z142.toNatClampNeg) (u136.1 0)))), (a4, .inl (g.2 1, 900, .inl mtape)), (h0, .inr (12, [.int mthrown, .ref a1, .ref a2, .ref a3, .ref a4, .int mtaped, .ref a6, .int msize, .int (u136.1 1), .int (u136.1 2), .int (u136.1 3), .int (u136.1 4), .int (u136.1 5), .int (u136.1 6), .ref a14, .ref a15, .int mgoal, .int mgoalDays, .int mgoalHearer, .ref a19, .ref a20, .int mleastOrder, .int mwordsMany, .ref a23, .ref a24, .ref a25, .ref a26, .ref a27, .ref a28]))] := hD
          have a_f143 : wok (upd x121 (z142.toNatClampNeg) (u136.1 0)) := (wx_p h_x121 (q := (mfresh 7).toInt.toNat) (n := x114) (by omega) (by omega) (by omega) (by omega) (by omega))
          generalize E_f143 : (upd x121 (z142.toNatClampNeg) (u136.1 0) : Nat → Int32) = f143 at hP hD a_f143
          have g_f143_0 : (f143 0).toInt = (x121 0).toInt := by rw [← E_f143, uo (by have := cln (x := z142) (by omega); omega)]
          have g_f143_2 : (f143 2).toInt = (x121 2).toInt := by rw [← E_f143, uo (by have := cln (x := z142) (by omega); omega)]
          have g_f143_5 : (f143 5).toInt = (x121 5).toInt := by rw [← E_f143, uo (by have := cln (x := z142) (by omega); omega)]
          have g_f143_6 : (f143 6).toInt = (x121 6).toInt := by rw [← E_f143, uo (by have := cln (x := z142) (by omega); omega)]
          have g_f143_7 : (f143 7).toInt = (x121 7).toInt := by rw [← E_f143, uo (by have := cln (x := z142) (by omega); omega)]
          have g_f143_8 : (f143 8).toInt = (x121 8).toInt := by rw [← E_f143, uo (by have := cln (x := z142) (by omega); omega)]
          have g_f143_9 : (f143 9).toInt = (x121 9).toInt := by rw [← E_f143, uo (by have := cln (x := z142) (by omega); omega)]
          obtain ⟨z144, e_z144⟩ : ∃ y : Int32, y = x114 + 1 := ⟨_, rfl⟩
          have t_z144 : z144.toInt = x114.toInt + 1 := by rw [e_z144]; exact addk (by decide) (by omega) (by omega)
          refine lv_iinc (v := z144) (lv' := [(2, .int z144), (3, .int (u136.1 0)), (1, .int z3), (0, .ref h0)]) hx hb dX12_readPlan_89 hl (k := 1) rfl (by rw [e_z144]; rfl) (by decide) rfl (fun ls hl => ?_)
          refine lv_aload_n hx hb dX12_readPlan_92 rfl (lv_at hl 3 rfl) ?_
          refine g_get (C := RX12) (T := TX12) (N := 29) (ci := 12) (v := .int (u136.1 3)) FC hKn hP i_X12 2 rfl rfl 10 (by decide) b_1114 rfl dX12_readPlan_93 ?_
          refine lv_iconst (v := 3) hx hb dX12_readPlan_96 (by decide) ?_
          refine lv_icmp_ne (tgt := 16) hx hb dX12_readPlan_97 (by decide) (fun c145 => ?_) (fun c145 => ?_)
          · have c145 := k_ne (a := (u136.1 3).toInt) (b := 3) rfl (by decide) c145
            exact ih130 z144 (u136.1 1) (u136.1 2) (u136.1 3) (u136.1 4) (u136.1 5) (u136.1 6) f143 _ _ ls (by omega) (by omega) (by omega) (by omega) (by omega) (by omega) a_f143 (by rw [← E_f143]; exact pl_s (n := x114) hi122 (by omega) (by omega) (by omega) (by omega)) (by omega) (by omega) (by omega) (by omega) (by omega) (by omega) (by omega) (hP.sub [2, 1, 0] rfl) (hD.sub [2, 1, 0] (by decide) rfl) hS (lv_sub hl [0, 2, 3] rfl)
          · have c145 := k_eq (a := (u136.1 3).toInt) (b := 3) rfl (by decide) c145
            refine lv_aload_n hx hb dX12_readPlan_100 rfl (lv_at hl 3 rfl) ?_
            refine g_get (C := RX12) (T := TX12) (N := 29) (ci := 12) (v := .ref a14) FC hKn hP i_X12 2 rfl rfl 14 (by decide) b_1132 rfl dX12_readPlan_101 ?_
            refine lv_iload_n hx hb dX12_readPlan_104 rfl (lv_at hl 2 rfl) ?_
            refine lv_iload_n hx hb dX12_readPlan_105 rfl (lv_at hl 0 rfl) ?_
            refine va_iast hx hb hKn.1 hP hD hS 0 0 rfl rfl (vp_in_iff.mpr ⟨by omega, by omega⟩) dX12_readPlan_106 (fun H locs hP hD hS => ?_)
            have hP : va_P g.1 vwCl [(a14, .inl (g.2 0, 225, .inl (upd f143 (z3.toNatClampNeg) z144))), (a4, .inl (g.2 1, 900, .inl mtape)), (h0, .inr (12, [.int mthrown, .ref a1, .ref a2, .ref a3, .ref a4, .int mtaped, .ref a6, .int msize, .int (u136.1 1), .int (u136.1 2), .int (u136.1 3), .int (u136.1 4), .int (u136.1 5), .int (u136.1 6), .ref a14, .ref a15, .int mgoal, .int mgoalDays, .int mgoalHearer, .ref a19, .ref a20, .int mleastOrder, .int mwordsMany, .ref a23, .ref a24, .ref a25, .ref a26, .ref a27, .ref a28]))] H := hP
            have hD : va_D A [(a14, .inl (g.2 0, 225, .inl (upd f143 (z3.toNatClampNeg) z144))), (a4, .inl (g.2 1, 900, .inl mtape)), (h0, .inr (12, [.int mthrown, .ref a1, .ref a2, .ref a3, .ref a4, .int mtaped, .ref a6, .int msize, .int (u136.1 1), .int (u136.1 2), .int (u136.1 3), .int (u136.1 4), .int (u136.1 5), .int (u136.1 6), .ref a14, .ref a15, .int mgoal, .int mgoalDays, .int mgoalHearer, .ref a19, .ref a20, .int mleastOrder, .int mwordsMany, .ref a23, .ref a24, .ref a25, .ref a26, .ref a27, .ref a28]))] := hD
            have a_f146 : wok (upd f143 (z3.toNatClampNeg) z144) := (wx_l a_f143 (q := (mfresh 7).toInt.toNat) (by omega) (by omega) (by omega) (by rw [← E_f143]; exact pl_s (n := x114) hi122 (by omega) (by omega) (by omega) (by omega)))
            generalize E_f146 : (upd f143 (z3.toNatClampNeg) z144 : Nat → Int32) = f146 at hP hD a_f146
            have g_f146_0 : (f146 0).toInt = (f143 0).toInt := by rw [← E_f146, uo (by have := cln (x := z3) (by omega); omega)]
            have g_f146_2 : (f146 2).toInt = (f143 2).toInt := by rw [← E_f146, uo (by have := cln (x := z3) (by omega); omega)]
            have g_f146_5 : (f146 5).toInt = (f143 5).toInt := by rw [← E_f146, uo (by have := cln (x := z3) (by omega); omega)]
            have g_f146_6 : (f146 6).toInt = (f143 6).toInt := by rw [← E_f146, uo (by have := cln (x := z3) (by omega); omega)]
            have g_f146_7 : (f146 7).toInt = (f143 7).toInt := by rw [← E_f146, uo (by have := cln (x := z3) (by omega); omega)]
            have g_f146_8 : (f146 8).toInt = (f143 8).toInt := by rw [← E_f146, uo (by have := cln (x := z3) (by omega); omega)]
            have g_f146_9 : (f146 9).toInt = (f143 9).toInt := by rw [← E_f146, uo (by have := cln (x := z3) (by omega); omega)]
            refine lv_aload_n hx hb dX12_readPlan_107 rfl (lv_at hl 3 rfl) ?_
            refine g_get (C := RX12) (T := TX12) (N := 29) (ci := 12) (v := .ref a14) FC hKn hP i_X12 2 rfl rfl 14 (by decide) b_1132 rfl dX12_readPlan_108 ?_
            refine lv_bipush (v := 7) hx hb dX12_readPlan_111 (by decide) ?_
            refine lv_dup2_11 hx hb dX12_readPlan_113 rfl rfl ?_
            refine va_iald hx hb hKn.1 hP 0 0 rfl rfl (by unfold vp_in; decide) dX12_readPlan_114 ?_
            refine lv_topi (fun z147 e_z147 => ?_)
            have t_z147 : 0 ≤ z147.toInt ∧ z147.toInt ≤ 4 := by rw [e_z147]; exact wk_7 a_f146
            have q_z147 : z147.toInt = (f146 7).toInt := by rw [e_z147]; rfl
            refine lv_iconst (v := 1) hx hb dX12_readPlan_115 (by decide) ?_
            refine lv_iadd hx hb dX12_readPlan_116 ?_
            refine lv_topi (fun z148 e_z148 => ?_)
            have t_z148 : z148.toInt = z147.toInt + ((1 : Int32)).toInt := by rw [e_z148]; exact fb_addI (by omega) (by omega)
            refine va_iast hx hb hKn.1 hP hD hS 0 0 rfl rfl (by unfold vp_in; decide) dX12_readPlan_117 (fun H locs hP hD hS => ?_)
            have hP : va_P g.1 vwCl [(a14, .inl (g.2 0, 225, .inl (upd f146 ((7 : Int32).toNatClampNeg) z148))), (a4, .inl (g.2 1, 900, .inl mtape)), (h0, .inr (12, [.int mthrown, .ref a1, .ref a2, .ref a3, .ref a4, .int mtaped, .ref a6, .int msize, .int (u136.1 1), .int (u136.1 2), .int (u136.1 3), .int (u136.1 4), .int (u136.1 5), .int (u136.1 6), .ref a14, .ref a15, .int mgoal, .int mgoalDays, .int mgoalHearer, .ref a19, .ref a20, .int mleastOrder, .int mwordsMany, .ref a23, .ref a24, .ref a25, .ref a26, .ref a27, .ref a28]))] H := hP
            have hD : va_D A [(a14, .inl (g.2 0, 225, .inl (upd f146 ((7 : Int32).toNatClampNeg) z148))), (a4, .inl (g.2 1, 900, .inl mtape)), (h0, .inr (12, [.int mthrown, .ref a1, .ref a2, .ref a3, .ref a4, .int mtaped, .ref a6, .int msize, .int (u136.1 1), .int (u136.1 2), .int (u136.1 3), .int (u136.1 4), .int (u136.1 5), .int (u136.1 6), .ref a14, .ref a15, .int mgoal, .int mgoalDays, .int mgoalHearer, .ref a19, .ref a20, .int mleastOrder, .int mwordsMany, .ref a23, .ref a24, .ref a25, .ref a26, .ref a27, .ref a28]))] := hD
            have a_f149 : wok (upd f146 ((7 : Int32).toNatClampNeg) z148) := (wk_uc (k := 7) a_f146 (by omega))
            generalize E_f149 : (upd f146 ((7 : Int32).toNatClampNeg) z148 : Nat → Int32) = f149 at hP hD a_f149
            have g_f149_0 : (f149 0).toInt = (f146 0).toInt := by rw [← E_f149]; exact congrArg Int32.toInt (uo (k := 7) (by decide))
            have g_f149_2 : (f149 2).toInt = (f146 2).toInt := by rw [← E_f149]; exact congrArg Int32.toInt (uo (k := 7) (by decide))
            have g_f149_5 : (f149 5).toInt = (f146 5).toInt := by rw [← E_f149]; exact congrArg Int32.toInt (uo (k := 7) (by decide))
            have g_f149_6 : (f149 6).toInt = (f146 6).toInt := by rw [← E_f149]; exact congrArg Int32.toInt (uo (k := 7) (by decide))
            have g_f149_7 : (f149 7).toInt = z148.toInt := by rw [← E_f149]; exact congrArg Int32.toInt (pk_us (k := 7))
            have g_f149_8 : (f149 8).toInt = (f146 8).toInt := by rw [← E_f149]; exact congrArg Int32.toInt (uo (k := 7) (by decide))
            have g_f149_9 : (f149 9).toInt = (f146 9).toInt := by rw [← E_f149]; exact congrArg Int32.toInt (uo (k := 7) (by decide))
            exact rt_v FX ((fun k => match k with | 0 => 0 | 1 => u136.1 1 | 2 => u136.1 2 | 3 => u136.1 3 | 4 => u136.1 4 | 5 => u136.1 5 | 6 => u136.1 6 | _ => 0), (fun k => match k with | 0 => f149 | _ => fun _ => 0), (fun _ => fun _ => 0)) rfl ⟨(show 0 ≤ (u136.1 1).toInt ∧ (u136.1 1).toInt ≤ 900 by omega), (show 0 ≤ (u136.1 2).toInt ∧ (u136.1 2).toInt ≤ 900 by omega), (show 0 ≤ (u136.1 3).toInt ∧ (u136.1 3).toInt ≤ 4 by omega), (show 0 ≤ (u136.1 4).toInt ∧ (u136.1 4).toInt ≤ 99999 by omega), (show 0 ≤ (u136.1 5).toInt ∧ (u136.1 5).toInt ≤ 3 by omega), a_f149, (show 5 * mat.toInt - mtoken.toInt ≤ 5 * (u136.1 1).toInt - (u136.1 3).toInt by omega), (show (u136.1 5).toInt = 0 → mfaultKind.toInt = 0 by omega), (show ((f149) 0).toInt = (mfresh 0).toInt ∧ ((f149) 2).toInt = (mfresh 2).toInt from (show (f149 0).toInt = (mfresh 0).toInt ∧ (f149 2).toInt = (mfresh 2).toInt by omega))⟩ (hP.sub [2, 1, 0] rfl) (hD.sub [2, 1, 0] (by decide) rfl) hS (Nat.le_of_ble_eq_true rfl) (Nat.le_of_ble_eq_true rfl) dX12_readPlan_118
        · skip
          refine tp_i (v := 0) (Int32.toInt_inj.mp (show (u138.1 0).toInt = (0 : Int32).toInt by rw [show (0 : Int32).toInt = 0 by decide]; omega)) ?_
          refine lv_if_ne (tgt := 78) hx hb dX12_readPlan_74 (by decide) (fun h => absurd h (by decide)) (fun _ => ?_)
          exact rt_v FX ((fun k => match k with | 0 => 0 | 1 => u136.1 1 | 2 => u136.1 2 | 3 => u136.1 3 | 4 => u136.1 4 | 5 => u136.1 5 | 6 => u136.1 6 | _ => 0), (fun k => match k with | 0 => x121 | _ => fun _ => 0), (fun _ => fun _ => 0)) rfl ⟨(show 0 ≤ (u136.1 1).toInt ∧ (u136.1 1).toInt ≤ 900 by omega), (show 0 ≤ (u136.1 2).toInt ∧ (u136.1 2).toInt ≤ 900 by omega), (show 0 ≤ (u136.1 3).toInt ∧ (u136.1 3).toInt ≤ 4 by omega), (show 0 ≤ (u136.1 4).toInt ∧ (u136.1 4).toInt ≤ 99999 by omega), (show 0 ≤ (u136.1 5).toInt ∧ (u136.1 5).toInt ≤ 3 by omega), h_x121, (show 5 * mat.toInt - mtoken.toInt ≤ 5 * (u136.1 1).toInt - (u136.1 3).toInt by omega), (show (u136.1 5).toInt = 0 → mfaultKind.toInt = 0 by omega), (show ((x121) 0).toInt = (mfresh 0).toInt ∧ ((x121) 2).toInt = (mfresh 2).toInt from (show (x121 0).toInt = (mfresh 0).toInt ∧ (x121 2).toInt = (mfresh 2).toInt by omega))⟩ (hP.sub [2, 1, 0] rfl) (hD.sub [2, 1, 0] (by decide) rfl) hS (Nat.le_of_ble_eq_true rfl) (Nat.le_of_ble_eq_true rfl) dX12_readPlan_77
      · have c133 := k_eq (a := x114.toInt) (b := 5) rfl (by decide) c133
        refine lv_aload_n hx hb dX12_readPlan_21 rfl (lv_at hl 2 rfl) ?_
        refine call_V (As := []) (rest := []) (wr := [(a4, .inl (g.2 1, 900, .inl mtape)), (a14, .inl (g.2 0, 225, .inl x121))]) FC hKn hZ (k_X12_good l g h0 a1 a2 a3 a4 a6 a14 a15 a19 a20 a23 a24 a25 a26 a27 a28 mthrown mtaped msize x115 x116 x117 x118 x119 x120 mgoal mgoalDays mgoalHearer mleastOrder mwordsMany (by omega) (by omega) (by omega) (by omega) (by omega) (by omega) (by omega) (by omega) (by omega)) m_yX12_good b_1117 (ci := 12) rfl rfl rfl hP hD hS hA [0] [1, 2] rfl (by decide) rfl (by decide) (by decide) rfl hl.1 rfl (Nat.le_of_ble_eq_true rfl) dX12_readPlan_22 ⟨(Nat.le_of_ble_eq_true rfl), (Nat.le_of_ble_eq_true rfl)⟩ ⟨(Nat.le_of_ble_eq_true rfl), (Nat.le_of_ble_eq_true rfl)⟩ (fun u150 H locs q151 hP hD hS => ?_)
        obtain ⟨q151_0, q151_1⟩ := q151
        have hP : va_P g.1 vwCl [(a4, .inl (g.2 1, 900, .inl mtape)), (a14, .inl (g.2 0, 225, .inl x121)), (h0, .inr (12, [.int mthrown, .ref a1, .ref a2, .ref a3, .ref a4, .int mtaped, .ref a6, .int msize, .int x115, .int x116, .int x117, .int x118, .int x119, .int x120, .ref a14, .ref a15, .int mgoal, .int mgoalDays, .int mgoalHearer, .ref a19, .ref a20, .int mleastOrder, .int mwordsMany, .ref a23, .ref a24, .ref a25, .ref a26, .ref a27, .ref a28]))] H := hP
        have hD : va_D A [(a4, .inl (g.2 1, 900, .inl mtape)), (a14, .inl (g.2 0, 225, .inl x121)), (h0, .inr (12, [.int mthrown, .ref a1, .ref a2, .ref a3, .ref a4, .int mtaped, .ref a6, .int msize, .int x115, .int x116, .int x117, .int x118, .int x119, .int x120, .ref a14, .ref a15, .int mgoal, .int mgoalDays, .int mgoalHearer, .ref a19, .ref a20, .int mleastOrder, .int mwordsMany, .ref a23, .ref a24, .ref a25, .ref a26, .ref a27, .ref a28]))] := hD
        refine W.eq (g2 := F0 m 25 ls [.int (u150.1 0)]) rfl ?_
        rcases (show x119.toInt = 0 ∨ x119.toInt ≠ 0 by omega) with c152 | c152
        · skip
          refine tp_i (v := 1) (Int32.toInt_inj.mp (show (u150.1 0).toInt = (1 : Int32).toInt by rw [show (1 : Int32).toInt = 1 by decide]; omega)) ?_
          refine lv_if_eq (tgt := 55) hx hb dX12_readPlan_25 (by decide) (fun h => absurd h (by decide)) (fun _ => ?_)
          refine lv_aload_n hx hb dX12_readPlan_28 rfl (lv_at hl 2 rfl) ?_
          refine g_get (C := RX12) (T := TX12) (N := 29) (ci := 12) (v := .int x117) FC hKn hP i_X12 2 rfl rfl 10 (by decide) b_1114 rfl dX12_readPlan_29 ?_
          refine lv_iconst (v := 2) hx hb dX12_readPlan_32 (by decide) ?_
          refine lv_icmp_ne (tgt := 55) hx hb dX12_readPlan_33 (by decide) (fun c153 => ?_) (fun c153 => ?_)
          · have c153 := k_ne (a := x117.toInt) (b := 2) rfl (by decide) c153
            refine lv_aload_n hx hb dX12_readPlan_55 rfl (lv_at hl 2 rfl) ?_
            refine lv_iconst (v := 0) hx hb dX12_readPlan_56 (by decide) ?_
            refine lv_aload_n hx hb dX12_readPlan_57 rfl (lv_at hl 2 rfl) ?_
            refine g_get (C := RX12) (T := TX12) (N := 29) (ci := 12) (v := .ref a14) FC hKn hP i_X12 2 rfl rfl 14 (by decide) b_1132 rfl dX12_readPlan_58 ?_
            refine lv_bipush (v := 6) hx hb dX12_readPlan_61 (by decide) ?_
            refine va_iald hx hb hKn.1 hP 1 0 rfl rfl (by unfold vp_in; decide) dX12_readPlan_63 ?_
            refine lv_topi (fun z154 e_z154 => ?_)
            have t_z154 : 0 ≤ z154.toInt ∧ z154.toInt ≤ 8 := by rw [e_z154]; exact wk_6 h_x121
            have q_z154 : z154.toInt = (x121 6).toInt := by rw [e_z154]; rfl
            refine lv_iconst (v := 1) hx hb dX12_readPlan_64 (by decide) ?_
            refine lv_isub hx hb dX12_readPlan_65 ?_
            have kc1 : (1 : Int32).toInt = 1 := by decide
            refine lv_topi (fun z155 e_z155 => ?_)
            have t_z155 : z155.toInt = z154.toInt - ((1 : Int32)).toInt := by rw [e_z155]; exact fb_subI (by omega) (by omega)
            have kc0 : (0 : Int32).toInt = 0 := by decide
            refine call_V (As := [.int 0, .int z155]) (rest := []) (wr := [(a14, .inl (g.2 0, 225, .inl x121))]) FC hKn hZ (k_X12_number l g h0 a1 a2 a3 a4 a6 a14 a15 a19 a20 a23 a24 a25 a26 a27 a28 mthrown mtaped msize x115 x116 x117 x118 x119 x120 mgoal mgoalDays mgoalHearer mleastOrder mwordsMany mtape ((0 : Int32)) z155 (by omega) (by omega) (by omega) (by omega) (by omega) (by omega) (by omega) (by omega) (by omega)) m_yX12_number b_1131 (ci := 12) rfl rfl rfl hP hD hS hA [2, 0] [1] rfl (by decide) rfl (by decide) (by decide) rfl hl.1 rfl (Nat.le_of_ble_eq_true rfl) dX12_readPlan_66 ⟨(Nat.le_of_ble_eq_true rfl), (Nat.le_of_ble_eq_true rfl)⟩ ⟨(Nat.le_of_ble_eq_true rfl), (Nat.le_of_ble_eq_true rfl)⟩ (fun u156 H locs q157 hP hD hS => ?_)
            obtain ⟨q157_0, q157_1, q157_2, q157_3, q157_4, q157_5, q157_6, q157_7, q157_8, q157_9⟩ := q157
            have hP : va_P g.1 vwCl [(a14, .inl (g.2 0, 225, .inl x121)), (h0, .inr (12, [.int mthrown, .ref a1, .ref a2, .ref a3, .ref a4, .int mtaped, .ref a6, .int msize, .int (u156.1 1), .int (u156.1 2), .int (u156.1 3), .int (u156.1 4), .int (u156.1 5), .int (u156.1 6), .ref a14, .ref a15, .int mgoal, .int mgoalDays, .int mgoalHearer, .ref a19, .ref a20, .int mleastOrder, .int mwordsMany, .ref a23, .ref a24, .ref a25, .ref a26, .ref a27, .ref a28])), (a4, .inl (g.2 1, 900, .inl mtape))] H := hP
            have hD : va_D A [(a14, .inl (g.2 0, 225, .inl x121)), (h0, .inr (12, [.int mthrown, .ref a1, .ref a2, .ref a3, .ref a4, .int mtaped, .ref a6, .int msize, .int (u156.1 1), .int (u156.1 2), .int (u156.1 3), .int (u156.1 4), .int (u156.1 5), .int (u156.1 6), .ref a14, .ref a15, .int mgoal, .int mgoalDays, .int mgoalHearer, .ref a19, .ref a20, .int mleastOrder, .int mwordsMany, .ref a23, .ref a24, .ref a25, .ref a26, .ref a27, .ref a28])), (a4, .inl (g.2 1, 900, .inl mtape))] := hD
            refine W.eq (g2 := F0 m 69 ls [.int (u156.1 0)]) rfl ?_
            refine lv_istore_n (lv' := [(3, .int (u156.1 0)), (2, .int x114), (1, .int z3), (0, .ref h0)]) hx hb dX12_readPlan_69 rfl hl (by decide) rfl (fun ls hl => ?_)
            refine lv_aload_n hx hb dX12_readPlan_70 rfl (lv_at hl 3 rfl) ?_
            refine call_V (As := []) (rest := []) (wr := [(a14, .inl (g.2 0, 225, .inl x121)), (a4, .inl (g.2 1, 900, .inl mtape))]) FC hKn hZ (k_X12_good l g h0 a1 a2 a3 a4 a6 a14 a15 a19 a20 a23 a24 a25 a26 a27 a28 mthrown mtaped msize (u156.1 1) (u156.1 2) (u156.1 3) (u156.1 4) (u156.1 5) (u156.1 6) mgoal mgoalDays mgoalHearer mleastOrder mwordsMany (by omega) (by omega) (by omega) (by omega) (by omega) (by omega) (by omega) (by omega) (by omega)) m_yX12_good b_1117 (ci := 12) rfl rfl rfl hP hD hS hA [1] [0, 2] rfl (by decide) rfl (by decide) (by decide) rfl hl.1 rfl (Nat.le_of_ble_eq_true rfl) dX12_readPlan_71 ⟨(Nat.le_of_ble_eq_true rfl), (Nat.le_of_ble_eq_true rfl)⟩ ⟨(Nat.le_of_ble_eq_true rfl), (Nat.le_of_ble_eq_true rfl)⟩ (fun u158 H locs q159 hP hD hS => ?_)
            obtain ⟨q159_0, q159_1⟩ := q159
            have hP : va_P g.1 vwCl [(a14, .inl (g.2 0, 225, .inl x121)), (a4, .inl (g.2 1, 900, .inl mtape)), (h0, .inr (12, [.int mthrown, .ref a1, .ref a2, .ref a3, .ref a4, .int mtaped, .ref a6, .int msize, .int (u156.1 1), .int (u156.1 2), .int (u156.1 3), .int (u156.1 4), .int (u156.1 5), .int (u156.1 6), .ref a14, .ref a15, .int mgoal, .int mgoalDays, .int mgoalHearer, .ref a19, .ref a20, .int mleastOrder, .int mwordsMany, .ref a23, .ref a24, .ref a25, .ref a26, .ref a27, .ref a28]))] H := hP
            have hD : va_D A [(a14, .inl (g.2 0, 225, .inl x121)), (a4, .inl (g.2 1, 900, .inl mtape)), (h0, .inr (12, [.int mthrown, .ref a1, .ref a2, .ref a3, .ref a4, .int mtaped, .ref a6, .int msize, .int (u156.1 1), .int (u156.1 2), .int (u156.1 3), .int (u156.1 4), .int (u156.1 5), .int (u156.1 6), .ref a14, .ref a15, .int mgoal, .int mgoalDays, .int mgoalHearer, .ref a19, .ref a20, .int mleastOrder, .int mwordsMany, .ref a23, .ref a24, .ref a25, .ref a26, .ref a27, .ref a28]))] := hD
            refine W.eq (g2 := F0 m 74 ls [.int (u158.1 0)]) rfl ?_
            rcases (show (u156.1 5).toInt = 0 ∨ (u156.1 5).toInt ≠ 0 by omega) with c160 | c160
            · skip
              refine tp_i (v := 1) (Int32.toInt_inj.mp (show (u158.1 0).toInt = (1 : Int32).toInt by rw [show (1 : Int32).toInt = 1 by decide]; omega)) ?_
              refine lv_if_ne (tgt := 78) hx hb dX12_readPlan_74 (by decide) (fun _ => ?_) (fun h => absurd h (by decide))
              refine lv_aload_n hx hb dX12_readPlan_78 rfl (lv_at hl 3 rfl) ?_
              refine g_get (C := RX12) (T := TX12) (N := 29) (ci := 12) (v := .ref a14) FC hKn hP i_X12 2 rfl rfl 14 (by decide) b_1132 rfl dX12_readPlan_79 ?_
              refine lv_iload_n hx hb dX12_readPlan_82 rfl (lv_at hl 2 rfl) ?_
              refine lv_iconst (v := 1) hx hb dX12_readPlan_83 (by decide) ?_
              refine lv_iadd hx hb dX12_readPlan_84 ?_
              refine lv_topi (fun z161 e_z161 => ?_)
              have t_z161 : z161.toInt = z3.toInt + ((1 : Int32)).toInt := by rw [e_z161]; exact fb_addI (by omega) (by omega)
              refine lv_iload_n hx hb dX12_readPlan_85 rfl (lv_at hl 1 rfl) ?_
              refine lv_iadd hx hb dX12_readPlan_86 ?_
              refine lv_topi (fun z162 e_z162 => ?_)
              have t_z162 : z162.toInt = z161.toInt + x114.toInt := by rw [e_z162]; exact fb_addI (by omega) (by omega)
              refine lv_iload_n hx hb dX12_readPlan_87 rfl (lv_at hl 0 rfl) ?_
              refine va_iast hx hb hKn.1 hP hD hS 0 0 rfl rfl (vp_in_iff.mpr ⟨by omega, by omega⟩) dX12_readPlan_88 (fun H locs hP hD hS => ?_)
              have hP : va_P g.1 vwCl [(a14, .inl (g.2 0, 225, .inl (upd x121 (z162.toNatClampNeg) (u156.1 0)))), (a4, .inl (g.2 1, 900, .inl mtape)), (h0, .inr (12, [.int mthrown, .ref a1, .ref a2, .ref a3, .ref a4, .int mtaped, .ref a6, .int msize, .int (u156.1 1), .int (u156.1 2), .int (u156.1 3), .int (u156.1 4), .int (u156.1 5), .int (u156.1 6), .ref a14, .ref a15, .int mgoal, .int mgoalDays, .int mgoalHearer, .ref a19, .ref a20, .int mleastOrder, .int mwordsMany, .ref a23, .ref a24, .ref a25, .ref a26, .ref a27, .ref a28]))] H := hP
              have hD : va_D A [(a14, .inl (g.2 0, 225, .inl (upd x121 (z162.toNatClampNeg) (u156.1 0)))), (a4, .inl (g.2 1, 900, .inl mtape)), (h0, .inr (12, [.int mthrown, .ref a1, .ref a2, .ref a3, .ref a4, .int mtaped, .ref a6, .int msize, .int (u156.1 1), .int (u156.1 2), .int (u156.1 3), .int (u156.1 4), .int (u156.1 5), .int (u156.1 6), .ref a14, .ref a15, .int mgoal, .int mgoalDays, .int mgoalHearer, .ref a19, .ref a20, .int mleastOrder, .int mwordsMany, .ref a23, .ref a24, .ref a25, .ref a26, .ref a27, .ref a28]))] := hD
              have a_f163 : wok (upd x121 (z162.toNatClampNeg) (u156.1 0)) := (wx_p h_x121 (q := (mfresh 7).toInt.toNat) (n := x114) (by omega) (by omega) (by omega) (by omega) (by omega))
              generalize E_f163 : (upd x121 (z162.toNatClampNeg) (u156.1 0) : Nat → Int32) = f163 at hP hD a_f163
              have g_f163_0 : (f163 0).toInt = (x121 0).toInt := by rw [← E_f163, uo (by have := cln (x := z162) (by omega); omega)]
              have g_f163_2 : (f163 2).toInt = (x121 2).toInt := by rw [← E_f163, uo (by have := cln (x := z162) (by omega); omega)]
              have g_f163_5 : (f163 5).toInt = (x121 5).toInt := by rw [← E_f163, uo (by have := cln (x := z162) (by omega); omega)]
              have g_f163_6 : (f163 6).toInt = (x121 6).toInt := by rw [← E_f163, uo (by have := cln (x := z162) (by omega); omega)]
              have g_f163_7 : (f163 7).toInt = (x121 7).toInt := by rw [← E_f163, uo (by have := cln (x := z162) (by omega); omega)]
              have g_f163_8 : (f163 8).toInt = (x121 8).toInt := by rw [← E_f163, uo (by have := cln (x := z162) (by omega); omega)]
              have g_f163_9 : (f163 9).toInt = (x121 9).toInt := by rw [← E_f163, uo (by have := cln (x := z162) (by omega); omega)]
              obtain ⟨z164, e_z164⟩ : ∃ y : Int32, y = x114 + 1 := ⟨_, rfl⟩
              have t_z164 : z164.toInt = x114.toInt + 1 := by rw [e_z164]; exact addk (by decide) (by omega) (by omega)
              refine lv_iinc (v := z164) (lv' := [(2, .int z164), (3, .int (u156.1 0)), (1, .int z3), (0, .ref h0)]) hx hb dX12_readPlan_89 hl (k := 1) rfl (by rw [e_z164]; rfl) (by decide) rfl (fun ls hl => ?_)
              refine lv_aload_n hx hb dX12_readPlan_92 rfl (lv_at hl 3 rfl) ?_
              refine g_get (C := RX12) (T := TX12) (N := 29) (ci := 12) (v := .int (u156.1 3)) FC hKn hP i_X12 2 rfl rfl 10 (by decide) b_1114 rfl dX12_readPlan_93 ?_
              refine lv_iconst (v := 3) hx hb dX12_readPlan_96 (by decide) ?_
              refine lv_icmp_ne (tgt := 16) hx hb dX12_readPlan_97 (by decide) (fun c165 => ?_) (fun c165 => ?_)
              · have c165 := k_ne (a := (u156.1 3).toInt) (b := 3) rfl (by decide) c165
                exact ih130 z164 (u156.1 1) (u156.1 2) (u156.1 3) (u156.1 4) (u156.1 5) (u156.1 6) f163 _ _ ls (by omega) (by omega) (by omega) (by omega) (by omega) (by omega) a_f163 (by rw [← E_f163]; exact pl_s (n := x114) hi122 (by omega) (by omega) (by omega) (by omega)) (by omega) (by omega) (by omega) (by omega) (by omega) (by omega) (by omega) (hP.sub [2, 1, 0] rfl) (hD.sub [2, 1, 0] (by decide) rfl) hS (lv_sub hl [0, 2, 3] rfl)
              · have c165 := k_eq (a := (u156.1 3).toInt) (b := 3) rfl (by decide) c165
                refine lv_aload_n hx hb dX12_readPlan_100 rfl (lv_at hl 3 rfl) ?_
                refine g_get (C := RX12) (T := TX12) (N := 29) (ci := 12) (v := .ref a14) FC hKn hP i_X12 2 rfl rfl 14 (by decide) b_1132 rfl dX12_readPlan_101 ?_
                refine lv_iload_n hx hb dX12_readPlan_104 rfl (lv_at hl 2 rfl) ?_
                refine lv_iload_n hx hb dX12_readPlan_105 rfl (lv_at hl 0 rfl) ?_
                refine va_iast hx hb hKn.1 hP hD hS 0 0 rfl rfl (vp_in_iff.mpr ⟨by omega, by omega⟩) dX12_readPlan_106 (fun H locs hP hD hS => ?_)
                have hP : va_P g.1 vwCl [(a14, .inl (g.2 0, 225, .inl (upd f163 (z3.toNatClampNeg) z164))), (a4, .inl (g.2 1, 900, .inl mtape)), (h0, .inr (12, [.int mthrown, .ref a1, .ref a2, .ref a3, .ref a4, .int mtaped, .ref a6, .int msize, .int (u156.1 1), .int (u156.1 2), .int (u156.1 3), .int (u156.1 4), .int (u156.1 5), .int (u156.1 6), .ref a14, .ref a15, .int mgoal, .int mgoalDays, .int mgoalHearer, .ref a19, .ref a20, .int mleastOrder, .int mwordsMany, .ref a23, .ref a24, .ref a25, .ref a26, .ref a27, .ref a28]))] H := hP
                have hD : va_D A [(a14, .inl (g.2 0, 225, .inl (upd f163 (z3.toNatClampNeg) z164))), (a4, .inl (g.2 1, 900, .inl mtape)), (h0, .inr (12, [.int mthrown, .ref a1, .ref a2, .ref a3, .ref a4, .int mtaped, .ref a6, .int msize, .int (u156.1 1), .int (u156.1 2), .int (u156.1 3), .int (u156.1 4), .int (u156.1 5), .int (u156.1 6), .ref a14, .ref a15, .int mgoal, .int mgoalDays, .int mgoalHearer, .ref a19, .ref a20, .int mleastOrder, .int mwordsMany, .ref a23, .ref a24, .ref a25, .ref a26, .ref a27, .ref a28]))] := hD
                have a_f166 : wok (upd f163 (z3.toNatClampNeg) z164) := (wx_l a_f163 (q := (mfresh 7).toInt.toNat) (by omega) (by omega) (by omega) (by rw [← E_f163]; exact pl_s (n := x114) hi122 (by omega) (by omega) (by omega) (by omega)))
                generalize E_f166 : (upd f163 (z3.toNatClampNeg) z164 : Nat → Int32) = f166 at hP hD a_f166
                have g_f166_0 : (f166 0).toInt = (f163 0).toInt := by rw [← E_f166, uo (by have := cln (x := z3) (by omega); omega)]
                have g_f166_2 : (f166 2).toInt = (f163 2).toInt := by rw [← E_f166, uo (by have := cln (x := z3) (by omega); omega)]
                have g_f166_5 : (f166 5).toInt = (f163 5).toInt := by rw [← E_f166, uo (by have := cln (x := z3) (by omega); omega)]
                have g_f166_6 : (f166 6).toInt = (f163 6).toInt := by rw [← E_f166, uo (by have := cln (x := z3) (by omega); omega)]
                have g_f166_7 : (f166 7).toInt = (f163 7).toInt := by rw [← E_f166, uo (by have := cln (x := z3) (by omega); omega)]
                have g_f166_8 : (f166 8).toInt = (f163 8).toInt := by rw [← E_f166, uo (by have := cln (x := z3) (by omega); omega)]
                have g_f166_9 : (f166 9).toInt = (f163 9).toInt := by rw [← E_f166, uo (by have := cln (x := z3) (by omega); omega)]
                refine lv_aload_n hx hb dX12_readPlan_107 rfl (lv_at hl 3 rfl) ?_
                refine g_get (C := RX12) (T := TX12) (N := 29) (ci := 12) (v := .ref a14) FC hKn hP i_X12 2 rfl rfl 14 (by decide) b_1132 rfl dX12_readPlan_108 ?_
                refine lv_bipush (v := 7) hx hb dX12_readPlan_111 (by decide) ?_
                refine lv_dup2_11 hx hb dX12_readPlan_113 rfl rfl ?_
                refine va_iald hx hb hKn.1 hP 0 0 rfl rfl (by unfold vp_in; decide) dX12_readPlan_114 ?_
                refine lv_topi (fun z167 e_z167 => ?_)
                have t_z167 : 0 ≤ z167.toInt ∧ z167.toInt ≤ 4 := by rw [e_z167]; exact wk_7 a_f166
                have q_z167 : z167.toInt = (f166 7).toInt := by rw [e_z167]; rfl
                refine lv_iconst (v := 1) hx hb dX12_readPlan_115 (by decide) ?_
                refine lv_iadd hx hb dX12_readPlan_116 ?_
                refine lv_topi (fun z168 e_z168 => ?_)
                have t_z168 : z168.toInt = z167.toInt + ((1 : Int32)).toInt := by rw [e_z168]; exact fb_addI (by omega) (by omega)
                refine va_iast hx hb hKn.1 hP hD hS 0 0 rfl rfl (by unfold vp_in; decide) dX12_readPlan_117 (fun H locs hP hD hS => ?_)
                have hP : va_P g.1 vwCl [(a14, .inl (g.2 0, 225, .inl (upd f166 ((7 : Int32).toNatClampNeg) z168))), (a4, .inl (g.2 1, 900, .inl mtape)), (h0, .inr (12, [.int mthrown, .ref a1, .ref a2, .ref a3, .ref a4, .int mtaped, .ref a6, .int msize, .int (u156.1 1), .int (u156.1 2), .int (u156.1 3), .int (u156.1 4), .int (u156.1 5), .int (u156.1 6), .ref a14, .ref a15, .int mgoal, .int mgoalDays, .int mgoalHearer, .ref a19, .ref a20, .int mleastOrder, .int mwordsMany, .ref a23, .ref a24, .ref a25, .ref a26, .ref a27, .ref a28]))] H := hP
                have hD : va_D A [(a14, .inl (g.2 0, 225, .inl (upd f166 ((7 : Int32).toNatClampNeg) z168))), (a4, .inl (g.2 1, 900, .inl mtape)), (h0, .inr (12, [.int mthrown, .ref a1, .ref a2, .ref a3, .ref a4, .int mtaped, .ref a6, .int msize, .int (u156.1 1), .int (u156.1 2), .int (u156.1 3), .int (u156.1 4), .int (u156.1 5), .int (u156.1 6), .ref a14, .ref a15, .int mgoal, .int mgoalDays, .int mgoalHearer, .ref a19, .ref a20, .int mleastOrder, .int mwordsMany, .ref a23, .ref a24, .ref a25, .ref a26, .ref a27, .ref a28]))] := hD
                have a_f169 : wok (upd f166 ((7 : Int32).toNatClampNeg) z168) := (wk_uc (k := 7) a_f166 (by omega))
                generalize E_f169 : (upd f166 ((7 : Int32).toNatClampNeg) z168 : Nat → Int32) = f169 at hP hD a_f169
                have g_f169_0 : (f169 0).toInt = (f166 0).toInt := by rw [← E_f169]; exact congrArg Int32.toInt (uo (k := 7) (by decide))
                have g_f169_2 : (f169 2).toInt = (f166 2).toInt := by rw [← E_f169]; exact congrArg Int32.toInt (uo (k := 7) (by decide))
                have g_f169_5 : (f169 5).toInt = (f166 5).toInt := by rw [← E_f169]; exact congrArg Int32.toInt (uo (k := 7) (by decide))
                have g_f169_6 : (f169 6).toInt = (f166 6).toInt := by rw [← E_f169]; exact congrArg Int32.toInt (uo (k := 7) (by decide))
                have g_f169_7 : (f169 7).toInt = z168.toInt := by rw [← E_f169]; exact congrArg Int32.toInt (pk_us (k := 7))
                have g_f169_8 : (f169 8).toInt = (f166 8).toInt := by rw [← E_f169]; exact congrArg Int32.toInt (uo (k := 7) (by decide))
                have g_f169_9 : (f169 9).toInt = (f166 9).toInt := by rw [← E_f169]; exact congrArg Int32.toInt (uo (k := 7) (by decide))
                exact rt_v FX ((fun k => match k with | 0 => 0 | 1 => u156.1 1 | 2 => u156.1 2 | 3 => u156.1 3 | 4 => u156.1 4 | 5 => u156.1 5 | 6 => u156.1 6 | _ => 0), (fun k => match k with | 0 => f169 | _ => fun _ => 0), (fun _ => fun _ => 0)) rfl ⟨(show 0 ≤ (u156.1 1).toInt ∧ (u156.1 1).toInt ≤ 900 by omega), (show 0 ≤ (u156.1 2).toInt ∧ (u156.1 2).toInt ≤ 900 by omega), (show 0 ≤ (u156.1 3).toInt ∧ (u156.1 3).toInt ≤ 4 by omega), (show 0 ≤ (u156.1 4).toInt ∧ (u156.1 4).toInt ≤ 99999 by omega), (show 0 ≤ (u156.1 5).toInt ∧ (u156.1 5).toInt ≤ 3 by omega), a_f169, (show 5 * mat.toInt - mtoken.toInt ≤ 5 * (u156.1 1).toInt - (u156.1 3).toInt by omega), (show (u156.1 5).toInt = 0 → mfaultKind.toInt = 0 by omega), (show ((f169) 0).toInt = (mfresh 0).toInt ∧ ((f169) 2).toInt = (mfresh 2).toInt from (show (f169 0).toInt = (mfresh 0).toInt ∧ (f169 2).toInt = (mfresh 2).toInt by omega))⟩ (hP.sub [2, 1, 0] rfl) (hD.sub [2, 1, 0] (by decide) rfl) hS (Nat.le_of_ble_eq_true rfl) (Nat.le_of_ble_eq_true rfl) dX12_readPlan_118
            · skip
              refine tp_i (v := 0) (Int32.toInt_inj.mp (show (u158.1 0).toInt = (0 : Int32).toInt by rw [show (0 : Int32).toInt = 0 by decide]; omega)) ?_
              refine lv_if_ne (tgt := 78) hx hb dX12_readPlan_74 (by decide) (fun h => absurd h (by decide)) (fun _ => ?_)
              exact rt_v FX ((fun k => match k with | 0 => 0 | 1 => u156.1 1 | 2 => u156.1 2 | 3 => u156.1 3 | 4 => u156.1 4 | 5 => u156.1 5 | 6 => u156.1 6 | _ => 0), (fun k => match k with | 0 => x121 | _ => fun _ => 0), (fun _ => fun _ => 0)) rfl ⟨(show 0 ≤ (u156.1 1).toInt ∧ (u156.1 1).toInt ≤ 900 by omega), (show 0 ≤ (u156.1 2).toInt ∧ (u156.1 2).toInt ≤ 900 by omega), (show 0 ≤ (u156.1 3).toInt ∧ (u156.1 3).toInt ≤ 4 by omega), (show 0 ≤ (u156.1 4).toInt ∧ (u156.1 4).toInt ≤ 99999 by omega), (show 0 ≤ (u156.1 5).toInt ∧ (u156.1 5).toInt ≤ 3 by omega), h_x121, (show 5 * mat.toInt - mtoken.toInt ≤ 5 * (u156.1 1).toInt - (u156.1 3).toInt by omega), (show (u156.1 5).toInt = 0 → mfaultKind.toInt = 0 by omega), (show ((x121) 0).toInt = (mfresh 0).toInt ∧ ((x121) 2).toInt = (mfresh 2).toInt from (show (x121 0).toInt = (mfresh 0).toInt ∧ (x121 2).toInt = (mfresh 2).toInt by omega))⟩ (hP.sub [2, 1, 0] rfl) (hD.sub [2, 1, 0] (by decide) rfl) hS (Nat.le_of_ble_eq_true rfl) (Nat.le_of_ble_eq_true rfl) dX12_readPlan_77
          · have c153 := k_eq (a := x117.toInt) (b := 2) rfl (by decide) c153
            refine lv_aload_n hx hb dX12_readPlan_36 rfl (lv_at hl 2 rfl) ?_
            refine g_get (C := RX12) (T := TX12) (N := 29) (ci := 12) (v := .int x118) FC hKn hP i_X12 2 rfl rfl 11 (by decide) b_1115 rfl dX12_readPlan_37 ?_
            refine lv_aload_n hx hb dX12_readPlan_40 rfl (lv_at hl 2 rfl) ?_
            refine g_get (C := RX12) (T := TX12) (N := 29) (ci := 12) (v := .ref a14) FC hKn hP i_X12 2 rfl rfl 14 (by decide) b_1132 rfl dX12_readPlan_41 ?_
            refine lv_bipush (v := 6) hx hb dX12_readPlan_44 (by decide) ?_
            refine va_iald hx hb hKn.1 hP 1 0 rfl rfl (by unfold vp_in; decide) dX12_readPlan_46 ?_
            refine lv_topi (fun z170 e_z170 => ?_)
            have t_z170 : 0 ≤ z170.toInt ∧ z170.toInt ≤ 8 := by rw [e_z170]; exact wk_6 h_x121
            have q_z170 : z170.toInt = (x121 6).toInt := by rw [e_z170]; rfl
            refine lv_icmp_ge (tgt := 55) hx hb dX12_readPlan_47 (by decide) (fun c171 => ?_) (fun c171 => ?_)
            · have c171 := k_le (a := z170.toInt) (b := x118.toInt) rfl rfl c171
              refine lv_aload_n hx hb dX12_readPlan_55 rfl (lv_at hl 2 rfl) ?_
              refine lv_iconst (v := 0) hx hb dX12_readPlan_56 (by decide) ?_
              refine lv_aload_n hx hb dX12_readPlan_57 rfl (lv_at hl 2 rfl) ?_
              refine g_get (C := RX12) (T := TX12) (N := 29) (ci := 12) (v := .ref a14) FC hKn hP i_X12 2 rfl rfl 14 (by decide) b_1132 rfl dX12_readPlan_58 ?_
              refine lv_bipush (v := 6) hx hb dX12_readPlan_61 (by decide) ?_
              refine va_iald hx hb hKn.1 hP 1 0 rfl rfl (by unfold vp_in; decide) dX12_readPlan_63 ?_
              refine tp_i (v := z170) e_z170.symm ?_
              refine lv_iconst (v := 1) hx hb dX12_readPlan_64 (by decide) ?_
              refine lv_isub hx hb dX12_readPlan_65 ?_
              have kc1 : (1 : Int32).toInt = 1 := by decide
              refine lv_topi (fun z172 e_z172 => ?_)
              have t_z172 : z172.toInt = z170.toInt - ((1 : Int32)).toInt := by rw [e_z172]; exact fb_subI (by omega) (by omega)
              have kc0 : (0 : Int32).toInt = 0 := by decide
              refine call_V (As := [.int 0, .int z172]) (rest := []) (wr := [(a14, .inl (g.2 0, 225, .inl x121))]) FC hKn hZ (k_X12_number l g h0 a1 a2 a3 a4 a6 a14 a15 a19 a20 a23 a24 a25 a26 a27 a28 mthrown mtaped msize x115 x116 x117 x118 x119 x120 mgoal mgoalDays mgoalHearer mleastOrder mwordsMany mtape ((0 : Int32)) z172 (by omega) (by omega) (by omega) (by omega) (by omega) (by omega) (by omega) (by omega) (by omega)) m_yX12_number b_1131 (ci := 12) rfl rfl rfl hP hD hS hA [2, 0] [1] rfl (by decide) rfl (by decide) (by decide) rfl hl.1 rfl (Nat.le_of_ble_eq_true rfl) dX12_readPlan_66 ⟨(Nat.le_of_ble_eq_true rfl), (Nat.le_of_ble_eq_true rfl)⟩ ⟨(Nat.le_of_ble_eq_true rfl), (Nat.le_of_ble_eq_true rfl)⟩ (fun u173 H locs q174 hP hD hS => ?_)
              obtain ⟨q174_0, q174_1, q174_2, q174_3, q174_4, q174_5, q174_6, q174_7, q174_8, q174_9⟩ := q174
              have hP : va_P g.1 vwCl [(a14, .inl (g.2 0, 225, .inl x121)), (h0, .inr (12, [.int mthrown, .ref a1, .ref a2, .ref a3, .ref a4, .int mtaped, .ref a6, .int msize, .int (u173.1 1), .int (u173.1 2), .int (u173.1 3), .int (u173.1 4), .int (u173.1 5), .int (u173.1 6), .ref a14, .ref a15, .int mgoal, .int mgoalDays, .int mgoalHearer, .ref a19, .ref a20, .int mleastOrder, .int mwordsMany, .ref a23, .ref a24, .ref a25, .ref a26, .ref a27, .ref a28])), (a4, .inl (g.2 1, 900, .inl mtape))] H := hP
              have hD : va_D A [(a14, .inl (g.2 0, 225, .inl x121)), (h0, .inr (12, [.int mthrown, .ref a1, .ref a2, .ref a3, .ref a4, .int mtaped, .ref a6, .int msize, .int (u173.1 1), .int (u173.1 2), .int (u173.1 3), .int (u173.1 4), .int (u173.1 5), .int (u173.1 6), .ref a14, .ref a15, .int mgoal, .int mgoalDays, .int mgoalHearer, .ref a19, .ref a20, .int mleastOrder, .int mwordsMany, .ref a23, .ref a24, .ref a25, .ref a26, .ref a27, .ref a28])), (a4, .inl (g.2 1, 900, .inl mtape))] := hD
              refine W.eq (g2 := F0 m 69 ls [.int (u173.1 0)]) rfl ?_
              refine lv_istore_n (lv' := [(3, .int (u173.1 0)), (2, .int x114), (1, .int z3), (0, .ref h0)]) hx hb dX12_readPlan_69 rfl hl (by decide) rfl (fun ls hl => ?_)
              refine lv_aload_n hx hb dX12_readPlan_70 rfl (lv_at hl 3 rfl) ?_
              refine call_V (As := []) (rest := []) (wr := [(a14, .inl (g.2 0, 225, .inl x121)), (a4, .inl (g.2 1, 900, .inl mtape))]) FC hKn hZ (k_X12_good l g h0 a1 a2 a3 a4 a6 a14 a15 a19 a20 a23 a24 a25 a26 a27 a28 mthrown mtaped msize (u173.1 1) (u173.1 2) (u173.1 3) (u173.1 4) (u173.1 5) (u173.1 6) mgoal mgoalDays mgoalHearer mleastOrder mwordsMany (by omega) (by omega) (by omega) (by omega) (by omega) (by omega) (by omega) (by omega) (by omega)) m_yX12_good b_1117 (ci := 12) rfl rfl rfl hP hD hS hA [1] [0, 2] rfl (by decide) rfl (by decide) (by decide) rfl hl.1 rfl (Nat.le_of_ble_eq_true rfl) dX12_readPlan_71 ⟨(Nat.le_of_ble_eq_true rfl), (Nat.le_of_ble_eq_true rfl)⟩ ⟨(Nat.le_of_ble_eq_true rfl), (Nat.le_of_ble_eq_true rfl)⟩ (fun u175 H locs q176 hP hD hS => ?_)
              obtain ⟨q176_0, q176_1⟩ := q176
              have hP : va_P g.1 vwCl [(a14, .inl (g.2 0, 225, .inl x121)), (a4, .inl (g.2 1, 900, .inl mtape)), (h0, .inr (12, [.int mthrown, .ref a1, .ref a2, .ref a3, .ref a4, .int mtaped, .ref a6, .int msize, .int (u173.1 1), .int (u173.1 2), .int (u173.1 3), .int (u173.1 4), .int (u173.1 5), .int (u173.1 6), .ref a14, .ref a15, .int mgoal, .int mgoalDays, .int mgoalHearer, .ref a19, .ref a20, .int mleastOrder, .int mwordsMany, .ref a23, .ref a24, .ref a25, .ref a26, .ref a27, .ref a28]))] H := hP
              have hD : va_D A [(a14, .inl (g.2 0, 225, .inl x121)), (a4, .inl (g.2 1, 900, .inl mtape)), (h0, .inr (12, [.int mthrown, .ref a1, .ref a2, .ref a3, .ref a4, .int mtaped, .ref a6, .int msize, .int (u173.1 1), .int (u173.1 2), .int (u173.1 3), .int (u173.1 4), .int (u173.1 5), .int (u173.1 6), .ref a14, .ref a15, .int mgoal, .int mgoalDays, .int mgoalHearer, .ref a19, .ref a20, .int mleastOrder, .int mwordsMany, .ref a23, .ref a24, .ref a25, .ref a26, .ref a27, .ref a28]))] := hD
              refine W.eq (g2 := F0 m 74 ls [.int (u175.1 0)]) rfl ?_
              rcases (show (u173.1 5).toInt = 0 ∨ (u173.1 5).toInt ≠ 0 by omega) with c177 | c177
              · skip
                refine tp_i (v := 1) (Int32.toInt_inj.mp (show (u175.1 0).toInt = (1 : Int32).toInt by rw [show (1 : Int32).toInt = 1 by decide]; omega)) ?_
                refine lv_if_ne (tgt := 78) hx hb dX12_readPlan_74 (by decide) (fun _ => ?_) (fun h => absurd h (by decide))
                refine lv_aload_n hx hb dX12_readPlan_78 rfl (lv_at hl 3 rfl) ?_
                refine g_get (C := RX12) (T := TX12) (N := 29) (ci := 12) (v := .ref a14) FC hKn hP i_X12 2 rfl rfl 14 (by decide) b_1132 rfl dX12_readPlan_79 ?_
                refine lv_iload_n hx hb dX12_readPlan_82 rfl (lv_at hl 2 rfl) ?_
                refine lv_iconst (v := 1) hx hb dX12_readPlan_83 (by decide) ?_
                refine lv_iadd hx hb dX12_readPlan_84 ?_
                refine lv_topi (fun z178 e_z178 => ?_)
                have t_z178 : z178.toInt = z3.toInt + ((1 : Int32)).toInt := by rw [e_z178]; exact fb_addI (by omega) (by omega)
                refine lv_iload_n hx hb dX12_readPlan_85 rfl (lv_at hl 1 rfl) ?_
                refine lv_iadd hx hb dX12_readPlan_86 ?_
                refine lv_topi (fun z179 e_z179 => ?_)
                have t_z179 : z179.toInt = z178.toInt + x114.toInt := by rw [e_z179]; exact fb_addI (by omega) (by omega)
                refine lv_iload_n hx hb dX12_readPlan_87 rfl (lv_at hl 0 rfl) ?_
                refine va_iast hx hb hKn.1 hP hD hS 0 0 rfl rfl (vp_in_iff.mpr ⟨by omega, by omega⟩) dX12_readPlan_88 (fun H locs hP hD hS => ?_)
                have hP : va_P g.1 vwCl [(a14, .inl (g.2 0, 225, .inl (upd x121 (z179.toNatClampNeg) (u173.1 0)))), (a4, .inl (g.2 1, 900, .inl mtape)), (h0, .inr (12, [.int mthrown, .ref a1, .ref a2, .ref a3, .ref a4, .int mtaped, .ref a6, .int msize, .int (u173.1 1), .int (u173.1 2), .int (u173.1 3), .int (u173.1 4), .int (u173.1 5), .int (u173.1 6), .ref a14, .ref a15, .int mgoal, .int mgoalDays, .int mgoalHearer, .ref a19, .ref a20, .int mleastOrder, .int mwordsMany, .ref a23, .ref a24, .ref a25, .ref a26, .ref a27, .ref a28]))] H := hP
                have hD : va_D A [(a14, .inl (g.2 0, 225, .inl (upd x121 (z179.toNatClampNeg) (u173.1 0)))), (a4, .inl (g.2 1, 900, .inl mtape)), (h0, .inr (12, [.int mthrown, .ref a1, .ref a2, .ref a3, .ref a4, .int mtaped, .ref a6, .int msize, .int (u173.1 1), .int (u173.1 2), .int (u173.1 3), .int (u173.1 4), .int (u173.1 5), .int (u173.1 6), .ref a14, .ref a15, .int mgoal, .int mgoalDays, .int mgoalHearer, .ref a19, .ref a20, .int mleastOrder, .int mwordsMany, .ref a23, .ref a24, .ref a25, .ref a26, .ref a27, .ref a28]))] := hD
                have a_f180 : wok (upd x121 (z179.toNatClampNeg) (u173.1 0)) := (wx_p h_x121 (q := (mfresh 7).toInt.toNat) (n := x114) (by omega) (by omega) (by omega) (by omega) (by omega))
                generalize E_f180 : (upd x121 (z179.toNatClampNeg) (u173.1 0) : Nat → Int32) = f180 at hP hD a_f180
                have g_f180_0 : (f180 0).toInt = (x121 0).toInt := by rw [← E_f180, uo (by have := cln (x := z179) (by omega); omega)]
                have g_f180_2 : (f180 2).toInt = (x121 2).toInt := by rw [← E_f180, uo (by have := cln (x := z179) (by omega); omega)]
                have g_f180_5 : (f180 5).toInt = (x121 5).toInt := by rw [← E_f180, uo (by have := cln (x := z179) (by omega); omega)]
                have g_f180_6 : (f180 6).toInt = (x121 6).toInt := by rw [← E_f180, uo (by have := cln (x := z179) (by omega); omega)]
                have g_f180_7 : (f180 7).toInt = (x121 7).toInt := by rw [← E_f180, uo (by have := cln (x := z179) (by omega); omega)]
                have g_f180_8 : (f180 8).toInt = (x121 8).toInt := by rw [← E_f180, uo (by have := cln (x := z179) (by omega); omega)]
                have g_f180_9 : (f180 9).toInt = (x121 9).toInt := by rw [← E_f180, uo (by have := cln (x := z179) (by omega); omega)]
                obtain ⟨z181, e_z181⟩ : ∃ y : Int32, y = x114 + 1 := ⟨_, rfl⟩
                have t_z181 : z181.toInt = x114.toInt + 1 := by rw [e_z181]; exact addk (by decide) (by omega) (by omega)
                refine lv_iinc (v := z181) (lv' := [(2, .int z181), (3, .int (u173.1 0)), (1, .int z3), (0, .ref h0)]) hx hb dX12_readPlan_89 hl (k := 1) rfl (by rw [e_z181]; rfl) (by decide) rfl (fun ls hl => ?_)
                refine lv_aload_n hx hb dX12_readPlan_92 rfl (lv_at hl 3 rfl) ?_
                refine g_get (C := RX12) (T := TX12) (N := 29) (ci := 12) (v := .int (u173.1 3)) FC hKn hP i_X12 2 rfl rfl 10 (by decide) b_1114 rfl dX12_readPlan_93 ?_
                refine lv_iconst (v := 3) hx hb dX12_readPlan_96 (by decide) ?_
                refine lv_icmp_ne (tgt := 16) hx hb dX12_readPlan_97 (by decide) (fun c182 => ?_) (fun c182 => ?_)
                · have c182 := k_ne (a := (u173.1 3).toInt) (b := 3) rfl (by decide) c182
                  exact ih130 z181 (u173.1 1) (u173.1 2) (u173.1 3) (u173.1 4) (u173.1 5) (u173.1 6) f180 _ _ ls (by omega) (by omega) (by omega) (by omega) (by omega) (by omega) a_f180 (by rw [← E_f180]; exact pl_s (n := x114) hi122 (by omega) (by omega) (by omega) (by omega)) (by omega) (by omega) (by omega) (by omega) (by omega) (by omega) (by omega) (hP.sub [2, 1, 0] rfl) (hD.sub [2, 1, 0] (by decide) rfl) hS (lv_sub hl [0, 2, 3] rfl)
                · have c182 := k_eq (a := (u173.1 3).toInt) (b := 3) rfl (by decide) c182
                  refine lv_aload_n hx hb dX12_readPlan_100 rfl (lv_at hl 3 rfl) ?_
                  refine g_get (C := RX12) (T := TX12) (N := 29) (ci := 12) (v := .ref a14) FC hKn hP i_X12 2 rfl rfl 14 (by decide) b_1132 rfl dX12_readPlan_101 ?_
                  refine lv_iload_n hx hb dX12_readPlan_104 rfl (lv_at hl 2 rfl) ?_
                  refine lv_iload_n hx hb dX12_readPlan_105 rfl (lv_at hl 0 rfl) ?_
                  refine va_iast hx hb hKn.1 hP hD hS 0 0 rfl rfl (vp_in_iff.mpr ⟨by omega, by omega⟩) dX12_readPlan_106 (fun H locs hP hD hS => ?_)
                  have hP : va_P g.1 vwCl [(a14, .inl (g.2 0, 225, .inl (upd f180 (z3.toNatClampNeg) z181))), (a4, .inl (g.2 1, 900, .inl mtape)), (h0, .inr (12, [.int mthrown, .ref a1, .ref a2, .ref a3, .ref a4, .int mtaped, .ref a6, .int msize, .int (u173.1 1), .int (u173.1 2), .int (u173.1 3), .int (u173.1 4), .int (u173.1 5), .int (u173.1 6), .ref a14, .ref a15, .int mgoal, .int mgoalDays, .int mgoalHearer, .ref a19, .ref a20, .int mleastOrder, .int mwordsMany, .ref a23, .ref a24, .ref a25, .ref a26, .ref a27, .ref a28]))] H := hP
                  have hD : va_D A [(a14, .inl (g.2 0, 225, .inl (upd f180 (z3.toNatClampNeg) z181))), (a4, .inl (g.2 1, 900, .inl mtape)), (h0, .inr (12, [.int mthrown, .ref a1, .ref a2, .ref a3, .ref a4, .int mtaped, .ref a6, .int msize, .int (u173.1 1), .int (u173.1 2), .int (u173.1 3), .int (u173.1 4), .int (u173.1 5), .int (u173.1 6), .ref a14, .ref a15, .int mgoal, .int mgoalDays, .int mgoalHearer, .ref a19, .ref a20, .int mleastOrder, .int mwordsMany, .ref a23, .ref a24, .ref a25, .ref a26, .ref a27, .ref a28]))] := hD
                  have a_f183 : wok (upd f180 (z3.toNatClampNeg) z181) := (wx_l a_f180 (q := (mfresh 7).toInt.toNat) (by omega) (by omega) (by omega) (by rw [← E_f180]; exact pl_s (n := x114) hi122 (by omega) (by omega) (by omega) (by omega)))
                  generalize E_f183 : (upd f180 (z3.toNatClampNeg) z181 : Nat → Int32) = f183 at hP hD a_f183
                  have g_f183_0 : (f183 0).toInt = (f180 0).toInt := by rw [← E_f183, uo (by have := cln (x := z3) (by omega); omega)]
                  have g_f183_2 : (f183 2).toInt = (f180 2).toInt := by rw [← E_f183, uo (by have := cln (x := z3) (by omega); omega)]
                  have g_f183_5 : (f183 5).toInt = (f180 5).toInt := by rw [← E_f183, uo (by have := cln (x := z3) (by omega); omega)]
                  have g_f183_6 : (f183 6).toInt = (f180 6).toInt := by rw [← E_f183, uo (by have := cln (x := z3) (by omega); omega)]
                  have g_f183_7 : (f183 7).toInt = (f180 7).toInt := by rw [← E_f183, uo (by have := cln (x := z3) (by omega); omega)]
                  have g_f183_8 : (f183 8).toInt = (f180 8).toInt := by rw [← E_f183, uo (by have := cln (x := z3) (by omega); omega)]
                  have g_f183_9 : (f183 9).toInt = (f180 9).toInt := by rw [← E_f183, uo (by have := cln (x := z3) (by omega); omega)]
                  refine lv_aload_n hx hb dX12_readPlan_107 rfl (lv_at hl 3 rfl) ?_
                  refine g_get (C := RX12) (T := TX12) (N := 29) (ci := 12) (v := .ref a14) FC hKn hP i_X12 2 rfl rfl 14 (by decide) b_1132 rfl dX12_readPlan_108 ?_
                  refine lv_bipush (v := 7) hx hb dX12_readPlan_111 (by decide) ?_
                  refine lv_dup2_11 hx hb dX12_readPlan_113 rfl rfl ?_
                  refine va_iald hx hb hKn.1 hP 0 0 rfl rfl (by unfold vp_in; decide) dX12_readPlan_114 ?_
                  refine lv_topi (fun z184 e_z184 => ?_)
                  have t_z184 : 0 ≤ z184.toInt ∧ z184.toInt ≤ 4 := by rw [e_z184]; exact wk_7 a_f183
                  have q_z184 : z184.toInt = (f183 7).toInt := by rw [e_z184]; rfl
                  refine lv_iconst (v := 1) hx hb dX12_readPlan_115 (by decide) ?_
                  refine lv_iadd hx hb dX12_readPlan_116 ?_
                  refine lv_topi (fun z185 e_z185 => ?_)
                  have t_z185 : z185.toInt = z184.toInt + ((1 : Int32)).toInt := by rw [e_z185]; exact fb_addI (by omega) (by omega)
                  refine va_iast hx hb hKn.1 hP hD hS 0 0 rfl rfl (by unfold vp_in; decide) dX12_readPlan_117 (fun H locs hP hD hS => ?_)
                  have hP : va_P g.1 vwCl [(a14, .inl (g.2 0, 225, .inl (upd f183 ((7 : Int32).toNatClampNeg) z185))), (a4, .inl (g.2 1, 900, .inl mtape)), (h0, .inr (12, [.int mthrown, .ref a1, .ref a2, .ref a3, .ref a4, .int mtaped, .ref a6, .int msize, .int (u173.1 1), .int (u173.1 2), .int (u173.1 3), .int (u173.1 4), .int (u173.1 5), .int (u173.1 6), .ref a14, .ref a15, .int mgoal, .int mgoalDays, .int mgoalHearer, .ref a19, .ref a20, .int mleastOrder, .int mwordsMany, .ref a23, .ref a24, .ref a25, .ref a26, .ref a27, .ref a28]))] H := hP
                  have hD : va_D A [(a14, .inl (g.2 0, 225, .inl (upd f183 ((7 : Int32).toNatClampNeg) z185))), (a4, .inl (g.2 1, 900, .inl mtape)), (h0, .inr (12, [.int mthrown, .ref a1, .ref a2, .ref a3, .ref a4, .int mtaped, .ref a6, .int msize, .int (u173.1 1), .int (u173.1 2), .int (u173.1 3), .int (u173.1 4), .int (u173.1 5), .int (u173.1 6), .ref a14, .ref a15, .int mgoal, .int mgoalDays, .int mgoalHearer, .ref a19, .ref a20, .int mleastOrder, .int mwordsMany, .ref a23, .ref a24, .ref a25, .ref a26, .ref a27, .ref a28]))] := hD
                  have a_f186 : wok (upd f183 ((7 : Int32).toNatClampNeg) z185) := (wk_uc (k := 7) a_f183 (by omega))
                  generalize E_f186 : (upd f183 ((7 : Int32).toNatClampNeg) z185 : Nat → Int32) = f186 at hP hD a_f186
                  have g_f186_0 : (f186 0).toInt = (f183 0).toInt := by rw [← E_f186]; exact congrArg Int32.toInt (uo (k := 7) (by decide))
                  have g_f186_2 : (f186 2).toInt = (f183 2).toInt := by rw [← E_f186]; exact congrArg Int32.toInt (uo (k := 7) (by decide))
                  have g_f186_5 : (f186 5).toInt = (f183 5).toInt := by rw [← E_f186]; exact congrArg Int32.toInt (uo (k := 7) (by decide))
                  have g_f186_6 : (f186 6).toInt = (f183 6).toInt := by rw [← E_f186]; exact congrArg Int32.toInt (uo (k := 7) (by decide))
                  have g_f186_7 : (f186 7).toInt = z185.toInt := by rw [← E_f186]; exact congrArg Int32.toInt (pk_us (k := 7))
                  have g_f186_8 : (f186 8).toInt = (f183 8).toInt := by rw [← E_f186]; exact congrArg Int32.toInt (uo (k := 7) (by decide))
                  have g_f186_9 : (f186 9).toInt = (f183 9).toInt := by rw [← E_f186]; exact congrArg Int32.toInt (uo (k := 7) (by decide))
                  exact rt_v FX ((fun k => match k with | 0 => 0 | 1 => u173.1 1 | 2 => u173.1 2 | 3 => u173.1 3 | 4 => u173.1 4 | 5 => u173.1 5 | 6 => u173.1 6 | _ => 0), (fun k => match k with | 0 => f186 | _ => fun _ => 0), (fun _ => fun _ => 0)) rfl ⟨(show 0 ≤ (u173.1 1).toInt ∧ (u173.1 1).toInt ≤ 900 by omega), (show 0 ≤ (u173.1 2).toInt ∧ (u173.1 2).toInt ≤ 900 by omega), (show 0 ≤ (u173.1 3).toInt ∧ (u173.1 3).toInt ≤ 4 by omega), (show 0 ≤ (u173.1 4).toInt ∧ (u173.1 4).toInt ≤ 99999 by omega), (show 0 ≤ (u173.1 5).toInt ∧ (u173.1 5).toInt ≤ 3 by omega), a_f186, (show 5 * mat.toInt - mtoken.toInt ≤ 5 * (u173.1 1).toInt - (u173.1 3).toInt by omega), (show (u173.1 5).toInt = 0 → mfaultKind.toInt = 0 by omega), (show ((f186) 0).toInt = (mfresh 0).toInt ∧ ((f186) 2).toInt = (mfresh 2).toInt from (show (f186 0).toInt = (mfresh 0).toInt ∧ (f186 2).toInt = (mfresh 2).toInt by omega))⟩ (hP.sub [2, 1, 0] rfl) (hD.sub [2, 1, 0] (by decide) rfl) hS (Nat.le_of_ble_eq_true rfl) (Nat.le_of_ble_eq_true rfl) dX12_readPlan_118
              · skip
                refine tp_i (v := 0) (Int32.toInt_inj.mp (show (u175.1 0).toInt = (0 : Int32).toInt by rw [show (0 : Int32).toInt = 0 by decide]; omega)) ?_
                refine lv_if_ne (tgt := 78) hx hb dX12_readPlan_74 (by decide) (fun h => absurd h (by decide)) (fun _ => ?_)
                exact rt_v FX ((fun k => match k with | 0 => 0 | 1 => u173.1 1 | 2 => u173.1 2 | 3 => u173.1 3 | 4 => u173.1 4 | 5 => u173.1 5 | 6 => u173.1 6 | _ => 0), (fun k => match k with | 0 => x121 | _ => fun _ => 0), (fun _ => fun _ => 0)) rfl ⟨(show 0 ≤ (u173.1 1).toInt ∧ (u173.1 1).toInt ≤ 900 by omega), (show 0 ≤ (u173.1 2).toInt ∧ (u173.1 2).toInt ≤ 900 by omega), (show 0 ≤ (u173.1 3).toInt ∧ (u173.1 3).toInt ≤ 4 by omega), (show 0 ≤ (u173.1 4).toInt ∧ (u173.1 4).toInt ≤ 99999 by omega), (show 0 ≤ (u173.1 5).toInt ∧ (u173.1 5).toInt ≤ 3 by omega), h_x121, (show 5 * mat.toInt - mtoken.toInt ≤ 5 * (u173.1 1).toInt - (u173.1 3).toInt by omega), (show (u173.1 5).toInt = 0 → mfaultKind.toInt = 0 by omega), (show ((x121) 0).toInt = (mfresh 0).toInt ∧ ((x121) 2).toInt = (mfresh 2).toInt from (show (x121 0).toInt = (mfresh 0).toInt ∧ (x121 2).toInt = (mfresh 2).toInt by omega))⟩ (hP.sub [2, 1, 0] rfl) (hD.sub [2, 1, 0] (by decide) rfl) hS (Nat.le_of_ble_eq_true rfl) (Nat.le_of_ble_eq_true rfl) dX12_readPlan_77
            · have c171 := k_nle (a := z170.toInt) (b := x118.toInt) rfl rfl c171
              refine lv_aload_n hx hb dX12_readPlan_50 rfl (lv_at hl 2 rfl) ?_
              refine lv_iconst (v := 3) hx hb dX12_readPlan_51 (by decide) ?_
              have kc3 : (3 : Int32).toInt = 3 := by decide
              refine call_V (As := [.int 3]) (rest := []) (wr := [(a4, .inl (g.2 1, 900, .inl mtape)), (a14, .inl (g.2 0, 225, .inl x121))]) FC hKn hZ (k_X12_errs l g h0 a1 a2 a3 a4 a6 a14 a15 a19 a20 a23 a24 a25 a26 a27 a28 mthrown mtaped msize x115 x116 x117 x118 x119 x120 mgoal mgoalDays mgoalHearer mleastOrder mwordsMany ((3 : Int32)) (by omega) (by omega) (by omega) (by omega) (by omega) (by omega) (by omega) (by omega) (by omega) (by omega)) m_yX12_errs b_1129 (ci := 12) rfl rfl rfl hP hD hS hA [2] [0, 1] rfl (by decide) rfl (by decide) (by decide) rfl hl.1 rfl (Nat.le_of_ble_eq_true rfl) dX12_readPlan_52 ⟨(Nat.le_of_ble_eq_true rfl), (Nat.le_of_ble_eq_true rfl)⟩ ⟨(Nat.le_of_ble_eq_true rfl), (Nat.le_of_ble_eq_true rfl)⟩ (fun u187 H locs q188 hP hD hS => ?_)
              have q188_0 : 1 ≤ (u187.1 1).toInt ∧ (u187.1 1).toInt ≤ 3 := q188
              have hP : va_P g.1 vwCl [(a4, .inl (g.2 1, 900, .inl mtape)), (a14, .inl (g.2 0, 225, .inl x121)), (h0, .inr (12, [.int mthrown, .ref a1, .ref a2, .ref a3, .ref a4, .int mtaped, .ref a6, .int msize, .int x115, .int x116, .int x117, .int x118, .int (u187.1 1), .int (u187.1 2), .ref a14, .ref a15, .int mgoal, .int mgoalDays, .int mgoalHearer, .ref a19, .ref a20, .int mleastOrder, .int mwordsMany, .ref a23, .ref a24, .ref a25, .ref a26, .ref a27, .ref a28]))] H := hP
              have hD : va_D A [(a4, .inl (g.2 1, 900, .inl mtape)), (a14, .inl (g.2 0, 225, .inl x121)), (h0, .inr (12, [.int mthrown, .ref a1, .ref a2, .ref a3, .ref a4, .int mtaped, .ref a6, .int msize, .int x115, .int x116, .int x117, .int x118, .int (u187.1 1), .int (u187.1 2), .ref a14, .ref a15, .int mgoal, .int mgoalDays, .int mgoalHearer, .ref a19, .ref a20, .int mleastOrder, .int mwordsMany, .ref a23, .ref a24, .ref a25, .ref a26, .ref a27, .ref a28]))] := hD
              refine W.eq (g2 := F0 m 55 ls []) rfl ?_
              refine lv_aload_n hx hb dX12_readPlan_55 rfl (lv_at hl 2 rfl) ?_
              refine lv_iconst (v := 0) hx hb dX12_readPlan_56 (by decide) ?_
              refine lv_aload_n hx hb dX12_readPlan_57 rfl (lv_at hl 2 rfl) ?_
              refine g_get (C := RX12) (T := TX12) (N := 29) (ci := 12) (v := .ref a14) FC hKn hP i_X12 2 rfl rfl 14 (by decide) b_1132 rfl dX12_readPlan_58 ?_
              refine lv_bipush (v := 6) hx hb dX12_readPlan_61 (by decide) ?_
              refine va_iald hx hb hKn.1 hP 1 0 rfl rfl (by unfold vp_in; decide) dX12_readPlan_63 ?_
              refine tp_i (v := z170) e_z170.symm ?_
              refine lv_iconst (v := 1) hx hb dX12_readPlan_64 (by decide) ?_
              refine lv_isub hx hb dX12_readPlan_65 ?_
              have kc1 : (1 : Int32).toInt = 1 := by decide
              refine lv_topi (fun z189 e_z189 => ?_)
              have t_z189 : z189.toInt = z170.toInt - ((1 : Int32)).toInt := by rw [e_z189]; exact fb_subI (by omega) (by omega)
              have kc0 : (0 : Int32).toInt = 0 := by decide
              refine call_V (As := [.int 0, .int z189]) (rest := []) (wr := [(a14, .inl (g.2 0, 225, .inl x121))]) FC hKn hZ (k_X12_number l g h0 a1 a2 a3 a4 a6 a14 a15 a19 a20 a23 a24 a25 a26 a27 a28 mthrown mtaped msize x115 x116 x117 x118 (u187.1 1) (u187.1 2) mgoal mgoalDays mgoalHearer mleastOrder mwordsMany mtape ((0 : Int32)) z189 (by omega) (by omega) (by omega) (by omega) (by omega) (by omega) (by omega) (by omega) (by omega)) m_yX12_number b_1131 (ci := 12) rfl rfl rfl hP hD hS hA [2, 0] [1] rfl (by decide) rfl (by decide) (by decide) rfl hl.1 rfl (Nat.le_of_ble_eq_true rfl) dX12_readPlan_66 ⟨(Nat.le_of_ble_eq_true rfl), (Nat.le_of_ble_eq_true rfl)⟩ ⟨(Nat.le_of_ble_eq_true rfl), (Nat.le_of_ble_eq_true rfl)⟩ (fun u190 H locs q191 hP hD hS => ?_)
              obtain ⟨q191_0, q191_1, q191_2, q191_3, q191_4, q191_5, q191_6, q191_7, q191_8, q191_9⟩ := q191
              have hP : va_P g.1 vwCl [(a14, .inl (g.2 0, 225, .inl x121)), (h0, .inr (12, [.int mthrown, .ref a1, .ref a2, .ref a3, .ref a4, .int mtaped, .ref a6, .int msize, .int (u190.1 1), .int (u190.1 2), .int (u190.1 3), .int (u190.1 4), .int (u190.1 5), .int (u190.1 6), .ref a14, .ref a15, .int mgoal, .int mgoalDays, .int mgoalHearer, .ref a19, .ref a20, .int mleastOrder, .int mwordsMany, .ref a23, .ref a24, .ref a25, .ref a26, .ref a27, .ref a28])), (a4, .inl (g.2 1, 900, .inl mtape))] H := hP
              have hD : va_D A [(a14, .inl (g.2 0, 225, .inl x121)), (h0, .inr (12, [.int mthrown, .ref a1, .ref a2, .ref a3, .ref a4, .int mtaped, .ref a6, .int msize, .int (u190.1 1), .int (u190.1 2), .int (u190.1 3), .int (u190.1 4), .int (u190.1 5), .int (u190.1 6), .ref a14, .ref a15, .int mgoal, .int mgoalDays, .int mgoalHearer, .ref a19, .ref a20, .int mleastOrder, .int mwordsMany, .ref a23, .ref a24, .ref a25, .ref a26, .ref a27, .ref a28])), (a4, .inl (g.2 1, 900, .inl mtape))] := hD
              refine W.eq (g2 := F0 m 69 ls [.int (u190.1 0)]) rfl ?_
              refine lv_istore_n (lv' := [(3, .int (u190.1 0)), (2, .int x114), (1, .int z3), (0, .ref h0)]) hx hb dX12_readPlan_69 rfl hl (by decide) rfl (fun ls hl => ?_)
              refine lv_aload_n hx hb dX12_readPlan_70 rfl (lv_at hl 3 rfl) ?_
              refine call_V (As := []) (rest := []) (wr := [(a14, .inl (g.2 0, 225, .inl x121)), (a4, .inl (g.2 1, 900, .inl mtape))]) FC hKn hZ (k_X12_good l g h0 a1 a2 a3 a4 a6 a14 a15 a19 a20 a23 a24 a25 a26 a27 a28 mthrown mtaped msize (u190.1 1) (u190.1 2) (u190.1 3) (u190.1 4) (u190.1 5) (u190.1 6) mgoal mgoalDays mgoalHearer mleastOrder mwordsMany (by omega) (by omega) (by omega) (by omega) (by omega) (by omega) (by omega) (by omega) (by omega)) m_yX12_good b_1117 (ci := 12) rfl rfl rfl hP hD hS hA [1] [0, 2] rfl (by decide) rfl (by decide) (by decide) rfl hl.1 rfl (Nat.le_of_ble_eq_true rfl) dX12_readPlan_71 ⟨(Nat.le_of_ble_eq_true rfl), (Nat.le_of_ble_eq_true rfl)⟩ ⟨(Nat.le_of_ble_eq_true rfl), (Nat.le_of_ble_eq_true rfl)⟩ (fun u192 H locs q193 hP hD hS => ?_)
              obtain ⟨q193_0, q193_1⟩ := q193
              have hP : va_P g.1 vwCl [(a14, .inl (g.2 0, 225, .inl x121)), (a4, .inl (g.2 1, 900, .inl mtape)), (h0, .inr (12, [.int mthrown, .ref a1, .ref a2, .ref a3, .ref a4, .int mtaped, .ref a6, .int msize, .int (u190.1 1), .int (u190.1 2), .int (u190.1 3), .int (u190.1 4), .int (u190.1 5), .int (u190.1 6), .ref a14, .ref a15, .int mgoal, .int mgoalDays, .int mgoalHearer, .ref a19, .ref a20, .int mleastOrder, .int mwordsMany, .ref a23, .ref a24, .ref a25, .ref a26, .ref a27, .ref a28]))] H := hP
              have hD : va_D A [(a14, .inl (g.2 0, 225, .inl x121)), (a4, .inl (g.2 1, 900, .inl mtape)), (h0, .inr (12, [.int mthrown, .ref a1, .ref a2, .ref a3, .ref a4, .int mtaped, .ref a6, .int msize, .int (u190.1 1), .int (u190.1 2), .int (u190.1 3), .int (u190.1 4), .int (u190.1 5), .int (u190.1 6), .ref a14, .ref a15, .int mgoal, .int mgoalDays, .int mgoalHearer, .ref a19, .ref a20, .int mleastOrder, .int mwordsMany, .ref a23, .ref a24, .ref a25, .ref a26, .ref a27, .ref a28]))] := hD
              refine W.eq (g2 := F0 m 74 ls [.int (u192.1 0)]) rfl ?_
              rcases (show (u190.1 5).toInt = 0 ∨ (u190.1 5).toInt ≠ 0 by omega) with c194 | c194
              · skip
                refine tp_i (v := 1) (Int32.toInt_inj.mp (show (u192.1 0).toInt = (1 : Int32).toInt by rw [show (1 : Int32).toInt = 1 by decide]; omega)) ?_
                refine lv_if_ne (tgt := 78) hx hb dX12_readPlan_74 (by decide) (fun _ => ?_) (fun h => absurd h (by decide))
                refine lv_aload_n hx hb dX12_readPlan_78 rfl (lv_at hl 3 rfl) ?_
                refine g_get (C := RX12) (T := TX12) (N := 29) (ci := 12) (v := .ref a14) FC hKn hP i_X12 2 rfl rfl 14 (by decide) b_1132 rfl dX12_readPlan_79 ?_
                refine lv_iload_n hx hb dX12_readPlan_82 rfl (lv_at hl 2 rfl) ?_
                refine lv_iconst (v := 1) hx hb dX12_readPlan_83 (by decide) ?_
                refine lv_iadd hx hb dX12_readPlan_84 ?_
                refine lv_topi (fun z195 e_z195 => ?_)
                have t_z195 : z195.toInt = z3.toInt + ((1 : Int32)).toInt := by rw [e_z195]; exact fb_addI (by omega) (by omega)
                refine lv_iload_n hx hb dX12_readPlan_85 rfl (lv_at hl 1 rfl) ?_
                refine lv_iadd hx hb dX12_readPlan_86 ?_
                refine lv_topi (fun z196 e_z196 => ?_)
                have t_z196 : z196.toInt = z195.toInt + x114.toInt := by rw [e_z196]; exact fb_addI (by omega) (by omega)
                refine lv_iload_n hx hb dX12_readPlan_87 rfl (lv_at hl 0 rfl) ?_
                refine va_iast hx hb hKn.1 hP hD hS 0 0 rfl rfl (vp_in_iff.mpr ⟨by omega, by omega⟩) dX12_readPlan_88 (fun H locs hP hD hS => ?_)
                have hP : va_P g.1 vwCl [(a14, .inl (g.2 0, 225, .inl (upd x121 (z196.toNatClampNeg) (u190.1 0)))), (a4, .inl (g.2 1, 900, .inl mtape)), (h0, .inr (12, [.int mthrown, .ref a1, .ref a2, .ref a3, .ref a4, .int mtaped, .ref a6, .int msize, .int (u190.1 1), .int (u190.1 2), .int (u190.1 3), .int (u190.1 4), .int (u190.1 5), .int (u190.1 6), .ref a14, .ref a15, .int mgoal, .int mgoalDays, .int mgoalHearer, .ref a19, .ref a20, .int mleastOrder, .int mwordsMany, .ref a23, .ref a24, .ref a25, .ref a26, .ref a27, .ref a28]))] H := hP
                have hD : va_D A [(a14, .inl (g.2 0, 225, .inl (upd x121 (z196.toNatClampNeg) (u190.1 0)))), (a4, .inl (g.2 1, 900, .inl mtape)), (h0, .inr (12, [.int mthrown, .ref a1, .ref a2, .ref a3, .ref a4, .int mtaped, .ref a6, .int msize, .int (u190.1 1), .int (u190.1 2), .int (u190.1 3), .int (u190.1 4), .int (u190.1 5), .int (u190.1 6), .ref a14, .ref a15, .int mgoal, .int mgoalDays, .int mgoalHearer, .ref a19, .ref a20, .int mleastOrder, .int mwordsMany, .ref a23, .ref a24, .ref a25, .ref a26, .ref a27, .ref a28]))] := hD
                have a_f197 : wok (upd x121 (z196.toNatClampNeg) (u190.1 0)) := (wx_p h_x121 (q := (mfresh 7).toInt.toNat) (n := x114) (by omega) (by omega) (by omega) (by omega) (by omega))
                generalize E_f197 : (upd x121 (z196.toNatClampNeg) (u190.1 0) : Nat → Int32) = f197 at hP hD a_f197
                have g_f197_0 : (f197 0).toInt = (x121 0).toInt := by rw [← E_f197, uo (by have := cln (x := z196) (by omega); omega)]
                have g_f197_2 : (f197 2).toInt = (x121 2).toInt := by rw [← E_f197, uo (by have := cln (x := z196) (by omega); omega)]
                have g_f197_5 : (f197 5).toInt = (x121 5).toInt := by rw [← E_f197, uo (by have := cln (x := z196) (by omega); omega)]
                have g_f197_6 : (f197 6).toInt = (x121 6).toInt := by rw [← E_f197, uo (by have := cln (x := z196) (by omega); omega)]
                have g_f197_7 : (f197 7).toInt = (x121 7).toInt := by rw [← E_f197, uo (by have := cln (x := z196) (by omega); omega)]
                have g_f197_8 : (f197 8).toInt = (x121 8).toInt := by rw [← E_f197, uo (by have := cln (x := z196) (by omega); omega)]
                have g_f197_9 : (f197 9).toInt = (x121 9).toInt := by rw [← E_f197, uo (by have := cln (x := z196) (by omega); omega)]
                obtain ⟨z198, e_z198⟩ : ∃ y : Int32, y = x114 + 1 := ⟨_, rfl⟩
                have t_z198 : z198.toInt = x114.toInt + 1 := by rw [e_z198]; exact addk (by decide) (by omega) (by omega)
                refine lv_iinc (v := z198) (lv' := [(2, .int z198), (3, .int (u190.1 0)), (1, .int z3), (0, .ref h0)]) hx hb dX12_readPlan_89 hl (k := 1) rfl (by rw [e_z198]; rfl) (by decide) rfl (fun ls hl => ?_)
                refine lv_aload_n hx hb dX12_readPlan_92 rfl (lv_at hl 3 rfl) ?_
                refine g_get (C := RX12) (T := TX12) (N := 29) (ci := 12) (v := .int (u190.1 3)) FC hKn hP i_X12 2 rfl rfl 10 (by decide) b_1114 rfl dX12_readPlan_93 ?_
                refine lv_iconst (v := 3) hx hb dX12_readPlan_96 (by decide) ?_
                refine lv_icmp_ne (tgt := 16) hx hb dX12_readPlan_97 (by decide) (fun c199 => ?_) (fun c199 => ?_)
                · have c199 := k_ne (a := (u190.1 3).toInt) (b := 3) rfl (by decide) c199
                  exact ih130 z198 (u190.1 1) (u190.1 2) (u190.1 3) (u190.1 4) (u190.1 5) (u190.1 6) f197 _ _ ls (by omega) (by omega) (by omega) (by omega) (by omega) (by omega) a_f197 (by rw [← E_f197]; exact pl_s (n := x114) hi122 (by omega) (by omega) (by omega) (by omega)) (by omega) (by omega) (by omega) (by omega) (by omega) (by omega) (by omega) (hP.sub [2, 1, 0] rfl) (hD.sub [2, 1, 0] (by decide) rfl) hS (lv_sub hl [0, 2, 3] rfl)
                · have c199 := k_eq (a := (u190.1 3).toInt) (b := 3) rfl (by decide) c199
                  refine lv_aload_n hx hb dX12_readPlan_100 rfl (lv_at hl 3 rfl) ?_
                  refine g_get (C := RX12) (T := TX12) (N := 29) (ci := 12) (v := .ref a14) FC hKn hP i_X12 2 rfl rfl 14 (by decide) b_1132 rfl dX12_readPlan_101 ?_
                  refine lv_iload_n hx hb dX12_readPlan_104 rfl (lv_at hl 2 rfl) ?_
                  refine lv_iload_n hx hb dX12_readPlan_105 rfl (lv_at hl 0 rfl) ?_
                  refine va_iast hx hb hKn.1 hP hD hS 0 0 rfl rfl (vp_in_iff.mpr ⟨by omega, by omega⟩) dX12_readPlan_106 (fun H locs hP hD hS => ?_)
                  have hP : va_P g.1 vwCl [(a14, .inl (g.2 0, 225, .inl (upd f197 (z3.toNatClampNeg) z198))), (a4, .inl (g.2 1, 900, .inl mtape)), (h0, .inr (12, [.int mthrown, .ref a1, .ref a2, .ref a3, .ref a4, .int mtaped, .ref a6, .int msize, .int (u190.1 1), .int (u190.1 2), .int (u190.1 3), .int (u190.1 4), .int (u190.1 5), .int (u190.1 6), .ref a14, .ref a15, .int mgoal, .int mgoalDays, .int mgoalHearer, .ref a19, .ref a20, .int mleastOrder, .int mwordsMany, .ref a23, .ref a24, .ref a25, .ref a26, .ref a27, .ref a28]))] H := hP
                  have hD : va_D A [(a14, .inl (g.2 0, 225, .inl (upd f197 (z3.toNatClampNeg) z198))), (a4, .inl (g.2 1, 900, .inl mtape)), (h0, .inr (12, [.int mthrown, .ref a1, .ref a2, .ref a3, .ref a4, .int mtaped, .ref a6, .int msize, .int (u190.1 1), .int (u190.1 2), .int (u190.1 3), .int (u190.1 4), .int (u190.1 5), .int (u190.1 6), .ref a14, .ref a15, .int mgoal, .int mgoalDays, .int mgoalHearer, .ref a19, .ref a20, .int mleastOrder, .int mwordsMany, .ref a23, .ref a24, .ref a25, .ref a26, .ref a27, .ref a28]))] := hD
                  have a_f200 : wok (upd f197 (z3.toNatClampNeg) z198) := (wx_l a_f197 (q := (mfresh 7).toInt.toNat) (by omega) (by omega) (by omega) (by rw [← E_f197]; exact pl_s (n := x114) hi122 (by omega) (by omega) (by omega) (by omega)))
                  generalize E_f200 : (upd f197 (z3.toNatClampNeg) z198 : Nat → Int32) = f200 at hP hD a_f200
                  have g_f200_0 : (f200 0).toInt = (f197 0).toInt := by rw [← E_f200, uo (by have := cln (x := z3) (by omega); omega)]
                  have g_f200_2 : (f200 2).toInt = (f197 2).toInt := by rw [← E_f200, uo (by have := cln (x := z3) (by omega); omega)]
                  have g_f200_5 : (f200 5).toInt = (f197 5).toInt := by rw [← E_f200, uo (by have := cln (x := z3) (by omega); omega)]
                  have g_f200_6 : (f200 6).toInt = (f197 6).toInt := by rw [← E_f200, uo (by have := cln (x := z3) (by omega); omega)]
                  have g_f200_7 : (f200 7).toInt = (f197 7).toInt := by rw [← E_f200, uo (by have := cln (x := z3) (by omega); omega)]
                  have g_f200_8 : (f200 8).toInt = (f197 8).toInt := by rw [← E_f200, uo (by have := cln (x := z3) (by omega); omega)]
                  have g_f200_9 : (f200 9).toInt = (f197 9).toInt := by rw [← E_f200, uo (by have := cln (x := z3) (by omega); omega)]
                  refine lv_aload_n hx hb dX12_readPlan_107 rfl (lv_at hl 3 rfl) ?_
                  refine g_get (C := RX12) (T := TX12) (N := 29) (ci := 12) (v := .ref a14) FC hKn hP i_X12 2 rfl rfl 14 (by decide) b_1132 rfl dX12_readPlan_108 ?_
                  refine lv_bipush (v := 7) hx hb dX12_readPlan_111 (by decide) ?_
                  refine lv_dup2_11 hx hb dX12_readPlan_113 rfl rfl ?_
                  refine va_iald hx hb hKn.1 hP 0 0 rfl rfl (by unfold vp_in; decide) dX12_readPlan_114 ?_
                  refine lv_topi (fun z201 e_z201 => ?_)
                  have t_z201 : 0 ≤ z201.toInt ∧ z201.toInt ≤ 4 := by rw [e_z201]; exact wk_7 a_f200
                  have q_z201 : z201.toInt = (f200 7).toInt := by rw [e_z201]; rfl
                  refine lv_iconst (v := 1) hx hb dX12_readPlan_115 (by decide) ?_
                  refine lv_iadd hx hb dX12_readPlan_116 ?_
                  refine lv_topi (fun z202 e_z202 => ?_)
                  have t_z202 : z202.toInt = z201.toInt + ((1 : Int32)).toInt := by rw [e_z202]; exact fb_addI (by omega) (by omega)
                  refine va_iast hx hb hKn.1 hP hD hS 0 0 rfl rfl (by unfold vp_in; decide) dX12_readPlan_117 (fun H locs hP hD hS => ?_)
                  have hP : va_P g.1 vwCl [(a14, .inl (g.2 0, 225, .inl (upd f200 ((7 : Int32).toNatClampNeg) z202))), (a4, .inl (g.2 1, 900, .inl mtape)), (h0, .inr (12, [.int mthrown, .ref a1, .ref a2, .ref a3, .ref a4, .int mtaped, .ref a6, .int msize, .int (u190.1 1), .int (u190.1 2), .int (u190.1 3), .int (u190.1 4), .int (u190.1 5), .int (u190.1 6), .ref a14, .ref a15, .int mgoal, .int mgoalDays, .int mgoalHearer, .ref a19, .ref a20, .int mleastOrder, .int mwordsMany, .ref a23, .ref a24, .ref a25, .ref a26, .ref a27, .ref a28]))] H := hP
                  have hD : va_D A [(a14, .inl (g.2 0, 225, .inl (upd f200 ((7 : Int32).toNatClampNeg) z202))), (a4, .inl (g.2 1, 900, .inl mtape)), (h0, .inr (12, [.int mthrown, .ref a1, .ref a2, .ref a3, .ref a4, .int mtaped, .ref a6, .int msize, .int (u190.1 1), .int (u190.1 2), .int (u190.1 3), .int (u190.1 4), .int (u190.1 5), .int (u190.1 6), .ref a14, .ref a15, .int mgoal, .int mgoalDays, .int mgoalHearer, .ref a19, .ref a20, .int mleastOrder, .int mwordsMany, .ref a23, .ref a24, .ref a25, .ref a26, .ref a27, .ref a28]))] := hD
                  have a_f203 : wok (upd f200 ((7 : Int32).toNatClampNeg) z202) := (wk_uc (k := 7) a_f200 (by omega))
                  generalize E_f203 : (upd f200 ((7 : Int32).toNatClampNeg) z202 : Nat → Int32) = f203 at hP hD a_f203
                  have g_f203_0 : (f203 0).toInt = (f200 0).toInt := by rw [← E_f203]; exact congrArg Int32.toInt (uo (k := 7) (by decide))
                  have g_f203_2 : (f203 2).toInt = (f200 2).toInt := by rw [← E_f203]; exact congrArg Int32.toInt (uo (k := 7) (by decide))
                  have g_f203_5 : (f203 5).toInt = (f200 5).toInt := by rw [← E_f203]; exact congrArg Int32.toInt (uo (k := 7) (by decide))
                  have g_f203_6 : (f203 6).toInt = (f200 6).toInt := by rw [← E_f203]; exact congrArg Int32.toInt (uo (k := 7) (by decide))
                  have g_f203_7 : (f203 7).toInt = z202.toInt := by rw [← E_f203]; exact congrArg Int32.toInt (pk_us (k := 7))
                  have g_f203_8 : (f203 8).toInt = (f200 8).toInt := by rw [← E_f203]; exact congrArg Int32.toInt (uo (k := 7) (by decide))
                  have g_f203_9 : (f203 9).toInt = (f200 9).toInt := by rw [← E_f203]; exact congrArg Int32.toInt (uo (k := 7) (by decide))
                  exact rt_v FX ((fun k => match k with | 0 => 0 | 1 => u190.1 1 | 2 => u190.1 2 | 3 => u190.1 3 | 4 => u190.1 4 | 5 => u190.1 5 | 6 => u190.1 6 | _ => 0), (fun k => match k with | 0 => f203 | _ => fun _ => 0), (fun _ => fun _ => 0)) rfl ⟨(show 0 ≤ (u190.1 1).toInt ∧ (u190.1 1).toInt ≤ 900 by omega), (show 0 ≤ (u190.1 2).toInt ∧ (u190.1 2).toInt ≤ 900 by omega), (show 0 ≤ (u190.1 3).toInt ∧ (u190.1 3).toInt ≤ 4 by omega), (show 0 ≤ (u190.1 4).toInt ∧ (u190.1 4).toInt ≤ 99999 by omega), (show 0 ≤ (u190.1 5).toInt ∧ (u190.1 5).toInt ≤ 3 by omega), a_f203, (show 5 * mat.toInt - mtoken.toInt ≤ 5 * (u190.1 1).toInt - (u190.1 3).toInt by omega), (show (u190.1 5).toInt = 0 → mfaultKind.toInt = 0 by omega), (show ((f203) 0).toInt = (mfresh 0).toInt ∧ ((f203) 2).toInt = (mfresh 2).toInt from (show (f203 0).toInt = (mfresh 0).toInt ∧ (f203 2).toInt = (mfresh 2).toInt by omega))⟩ (hP.sub [2, 1, 0] rfl) (hD.sub [2, 1, 0] (by decide) rfl) hS (Nat.le_of_ble_eq_true rfl) (Nat.le_of_ble_eq_true rfl) dX12_readPlan_118
              · skip
                refine tp_i (v := 0) (Int32.toInt_inj.mp (show (u192.1 0).toInt = (0 : Int32).toInt by rw [show (0 : Int32).toInt = 0 by decide]; omega)) ?_
                refine lv_if_ne (tgt := 78) hx hb dX12_readPlan_74 (by decide) (fun h => absurd h (by decide)) (fun _ => ?_)
                exact rt_v FX ((fun k => match k with | 0 => 0 | 1 => u190.1 1 | 2 => u190.1 2 | 3 => u190.1 3 | 4 => u190.1 4 | 5 => u190.1 5 | 6 => u190.1 6 | _ => 0), (fun k => match k with | 0 => x121 | _ => fun _ => 0), (fun _ => fun _ => 0)) rfl ⟨(show 0 ≤ (u190.1 1).toInt ∧ (u190.1 1).toInt ≤ 900 by omega), (show 0 ≤ (u190.1 2).toInt ∧ (u190.1 2).toInt ≤ 900 by omega), (show 0 ≤ (u190.1 3).toInt ∧ (u190.1 3).toInt ≤ 4 by omega), (show 0 ≤ (u190.1 4).toInt ∧ (u190.1 4).toInt ≤ 99999 by omega), (show 0 ≤ (u190.1 5).toInt ∧ (u190.1 5).toInt ≤ 3 by omega), h_x121, (show 5 * mat.toInt - mtoken.toInt ≤ 5 * (u190.1 1).toInt - (u190.1 3).toInt by omega), (show (u190.1 5).toInt = 0 → mfaultKind.toInt = 0 by omega), (show ((x121) 0).toInt = (mfresh 0).toInt ∧ ((x121) 2).toInt = (mfresh 2).toInt from (show (x121 0).toInt = (mfresh 0).toInt ∧ (x121 2).toInt = (mfresh 2).toInt by omega))⟩ (hP.sub [2, 1, 0] rfl) (hD.sub [2, 1, 0] (by decide) rfl) hS (Nat.le_of_ble_eq_true rfl) (Nat.le_of_ble_eq_true rfl) dX12_readPlan_77
        · skip
          refine tp_i (v := 0) (Int32.toInt_inj.mp (show (u150.1 0).toInt = (0 : Int32).toInt by rw [show (0 : Int32).toInt = 0 by decide]; omega)) ?_
          refine lv_if_eq (tgt := 55) hx hb dX12_readPlan_25 (by decide) (fun _ => ?_) (fun h => absurd h (by decide))
          refine lv_aload_n hx hb dX12_readPlan_55 rfl (lv_at hl 2 rfl) ?_
          refine lv_iconst (v := 0) hx hb dX12_readPlan_56 (by decide) ?_
          refine lv_aload_n hx hb dX12_readPlan_57 rfl (lv_at hl 2 rfl) ?_
          refine g_get (C := RX12) (T := TX12) (N := 29) (ci := 12) (v := .ref a14) FC hKn hP i_X12 2 rfl rfl 14 (by decide) b_1132 rfl dX12_readPlan_58 ?_
          refine lv_bipush (v := 6) hx hb dX12_readPlan_61 (by decide) ?_
          refine va_iald hx hb hKn.1 hP 1 0 rfl rfl (by unfold vp_in; decide) dX12_readPlan_63 ?_
          refine lv_topi (fun z204 e_z204 => ?_)
          have t_z204 : 0 ≤ z204.toInt ∧ z204.toInt ≤ 8 := by rw [e_z204]; exact wk_6 h_x121
          have q_z204 : z204.toInt = (x121 6).toInt := by rw [e_z204]; rfl
          refine lv_iconst (v := 1) hx hb dX12_readPlan_64 (by decide) ?_
          refine lv_isub hx hb dX12_readPlan_65 ?_
          have kc1 : (1 : Int32).toInt = 1 := by decide
          refine lv_topi (fun z205 e_z205 => ?_)
          have t_z205 : z205.toInt = z204.toInt - ((1 : Int32)).toInt := by rw [e_z205]; exact fb_subI (by omega) (by omega)
          have kc0 : (0 : Int32).toInt = 0 := by decide
          refine call_V (As := [.int 0, .int z205]) (rest := []) (wr := [(a14, .inl (g.2 0, 225, .inl x121))]) FC hKn hZ (k_X12_number l g h0 a1 a2 a3 a4 a6 a14 a15 a19 a20 a23 a24 a25 a26 a27 a28 mthrown mtaped msize x115 x116 x117 x118 x119 x120 mgoal mgoalDays mgoalHearer mleastOrder mwordsMany mtape ((0 : Int32)) z205 (by omega) (by omega) (by omega) (by omega) (by omega) (by omega) (by omega) (by omega) (by omega)) m_yX12_number b_1131 (ci := 12) rfl rfl rfl hP hD hS hA [2, 0] [1] rfl (by decide) rfl (by decide) (by decide) rfl hl.1 rfl (Nat.le_of_ble_eq_true rfl) dX12_readPlan_66 ⟨(Nat.le_of_ble_eq_true rfl), (Nat.le_of_ble_eq_true rfl)⟩ ⟨(Nat.le_of_ble_eq_true rfl), (Nat.le_of_ble_eq_true rfl)⟩ (fun u206 H locs q207 hP hD hS => ?_)
          obtain ⟨q207_0, q207_1, q207_2, q207_3, q207_4, q207_5, q207_6, q207_7, q207_8, q207_9⟩ := q207
          have hP : va_P g.1 vwCl [(a14, .inl (g.2 0, 225, .inl x121)), (h0, .inr (12, [.int mthrown, .ref a1, .ref a2, .ref a3, .ref a4, .int mtaped, .ref a6, .int msize, .int (u206.1 1), .int (u206.1 2), .int (u206.1 3), .int (u206.1 4), .int (u206.1 5), .int (u206.1 6), .ref a14, .ref a15, .int mgoal, .int mgoalDays, .int mgoalHearer, .ref a19, .ref a20, .int mleastOrder, .int mwordsMany, .ref a23, .ref a24, .ref a25, .ref a26, .ref a27, .ref a28])), (a4, .inl (g.2 1, 900, .inl mtape))] H := hP
          have hD : va_D A [(a14, .inl (g.2 0, 225, .inl x121)), (h0, .inr (12, [.int mthrown, .ref a1, .ref a2, .ref a3, .ref a4, .int mtaped, .ref a6, .int msize, .int (u206.1 1), .int (u206.1 2), .int (u206.1 3), .int (u206.1 4), .int (u206.1 5), .int (u206.1 6), .ref a14, .ref a15, .int mgoal, .int mgoalDays, .int mgoalHearer, .ref a19, .ref a20, .int mleastOrder, .int mwordsMany, .ref a23, .ref a24, .ref a25, .ref a26, .ref a27, .ref a28])), (a4, .inl (g.2 1, 900, .inl mtape))] := hD
          refine W.eq (g2 := F0 m 69 ls [.int (u206.1 0)]) rfl ?_
          refine lv_istore_n (lv' := [(3, .int (u206.1 0)), (2, .int x114), (1, .int z3), (0, .ref h0)]) hx hb dX12_readPlan_69 rfl hl (by decide) rfl (fun ls hl => ?_)
          refine lv_aload_n hx hb dX12_readPlan_70 rfl (lv_at hl 3 rfl) ?_
          refine call_V (As := []) (rest := []) (wr := [(a14, .inl (g.2 0, 225, .inl x121)), (a4, .inl (g.2 1, 900, .inl mtape))]) FC hKn hZ (k_X12_good l g h0 a1 a2 a3 a4 a6 a14 a15 a19 a20 a23 a24 a25 a26 a27 a28 mthrown mtaped msize (u206.1 1) (u206.1 2) (u206.1 3) (u206.1 4) (u206.1 5) (u206.1 6) mgoal mgoalDays mgoalHearer mleastOrder mwordsMany (by omega) (by omega) (by omega) (by omega) (by omega) (by omega) (by omega) (by omega) (by omega)) m_yX12_good b_1117 (ci := 12) rfl rfl rfl hP hD hS hA [1] [0, 2] rfl (by decide) rfl (by decide) (by decide) rfl hl.1 rfl (Nat.le_of_ble_eq_true rfl) dX12_readPlan_71 ⟨(Nat.le_of_ble_eq_true rfl), (Nat.le_of_ble_eq_true rfl)⟩ ⟨(Nat.le_of_ble_eq_true rfl), (Nat.le_of_ble_eq_true rfl)⟩ (fun u208 H locs q209 hP hD hS => ?_)
          obtain ⟨q209_0, q209_1⟩ := q209
          have hP : va_P g.1 vwCl [(a14, .inl (g.2 0, 225, .inl x121)), (a4, .inl (g.2 1, 900, .inl mtape)), (h0, .inr (12, [.int mthrown, .ref a1, .ref a2, .ref a3, .ref a4, .int mtaped, .ref a6, .int msize, .int (u206.1 1), .int (u206.1 2), .int (u206.1 3), .int (u206.1 4), .int (u206.1 5), .int (u206.1 6), .ref a14, .ref a15, .int mgoal, .int mgoalDays, .int mgoalHearer, .ref a19, .ref a20, .int mleastOrder, .int mwordsMany, .ref a23, .ref a24, .ref a25, .ref a26, .ref a27, .ref a28]))] H := hP
          have hD : va_D A [(a14, .inl (g.2 0, 225, .inl x121)), (a4, .inl (g.2 1, 900, .inl mtape)), (h0, .inr (12, [.int mthrown, .ref a1, .ref a2, .ref a3, .ref a4, .int mtaped, .ref a6, .int msize, .int (u206.1 1), .int (u206.1 2), .int (u206.1 3), .int (u206.1 4), .int (u206.1 5), .int (u206.1 6), .ref a14, .ref a15, .int mgoal, .int mgoalDays, .int mgoalHearer, .ref a19, .ref a20, .int mleastOrder, .int mwordsMany, .ref a23, .ref a24, .ref a25, .ref a26, .ref a27, .ref a28]))] := hD
          refine W.eq (g2 := F0 m 74 ls [.int (u208.1 0)]) rfl ?_
          rcases (show (u206.1 5).toInt = 0 ∨ (u206.1 5).toInt ≠ 0 by omega) with c210 | c210
          · skip
            refine tp_i (v := 1) (Int32.toInt_inj.mp (show (u208.1 0).toInt = (1 : Int32).toInt by rw [show (1 : Int32).toInt = 1 by decide]; omega)) ?_
            refine lv_if_ne (tgt := 78) hx hb dX12_readPlan_74 (by decide) (fun _ => ?_) (fun h => absurd h (by decide))
            refine lv_aload_n hx hb dX12_readPlan_78 rfl (lv_at hl 3 rfl) ?_
            refine g_get (C := RX12) (T := TX12) (N := 29) (ci := 12) (v := .ref a14) FC hKn hP i_X12 2 rfl rfl 14 (by decide) b_1132 rfl dX12_readPlan_79 ?_
            refine lv_iload_n hx hb dX12_readPlan_82 rfl (lv_at hl 2 rfl) ?_
            refine lv_iconst (v := 1) hx hb dX12_readPlan_83 (by decide) ?_
            refine lv_iadd hx hb dX12_readPlan_84 ?_
            refine lv_topi (fun z211 e_z211 => ?_)
            have t_z211 : z211.toInt = z3.toInt + ((1 : Int32)).toInt := by rw [e_z211]; exact fb_addI (by omega) (by omega)
            refine lv_iload_n hx hb dX12_readPlan_85 rfl (lv_at hl 1 rfl) ?_
            refine lv_iadd hx hb dX12_readPlan_86 ?_
            refine lv_topi (fun z212 e_z212 => ?_)
            have t_z212 : z212.toInt = z211.toInt + x114.toInt := by rw [e_z212]; exact fb_addI (by omega) (by omega)
            refine lv_iload_n hx hb dX12_readPlan_87 rfl (lv_at hl 0 rfl) ?_
            refine va_iast hx hb hKn.1 hP hD hS 0 0 rfl rfl (vp_in_iff.mpr ⟨by omega, by omega⟩) dX12_readPlan_88 (fun H locs hP hD hS => ?_)
            have hP : va_P g.1 vwCl [(a14, .inl (g.2 0, 225, .inl (upd x121 (z212.toNatClampNeg) (u206.1 0)))), (a4, .inl (g.2 1, 900, .inl mtape)), (h0, .inr (12, [.int mthrown, .ref a1, .ref a2, .ref a3, .ref a4, .int mtaped, .ref a6, .int msize, .int (u206.1 1), .int (u206.1 2), .int (u206.1 3), .int (u206.1 4), .int (u206.1 5), .int (u206.1 6), .ref a14, .ref a15, .int mgoal, .int mgoalDays, .int mgoalHearer, .ref a19, .ref a20, .int mleastOrder, .int mwordsMany, .ref a23, .ref a24, .ref a25, .ref a26, .ref a27, .ref a28]))] H := hP
            have hD : va_D A [(a14, .inl (g.2 0, 225, .inl (upd x121 (z212.toNatClampNeg) (u206.1 0)))), (a4, .inl (g.2 1, 900, .inl mtape)), (h0, .inr (12, [.int mthrown, .ref a1, .ref a2, .ref a3, .ref a4, .int mtaped, .ref a6, .int msize, .int (u206.1 1), .int (u206.1 2), .int (u206.1 3), .int (u206.1 4), .int (u206.1 5), .int (u206.1 6), .ref a14, .ref a15, .int mgoal, .int mgoalDays, .int mgoalHearer, .ref a19, .ref a20, .int mleastOrder, .int mwordsMany, .ref a23, .ref a24, .ref a25, .ref a26, .ref a27, .ref a28]))] := hD
            have a_f213 : wok (upd x121 (z212.toNatClampNeg) (u206.1 0)) := (wx_p h_x121 (q := (mfresh 7).toInt.toNat) (n := x114) (by omega) (by omega) (by omega) (by omega) (by omega))
            generalize E_f213 : (upd x121 (z212.toNatClampNeg) (u206.1 0) : Nat → Int32) = f213 at hP hD a_f213
            have g_f213_0 : (f213 0).toInt = (x121 0).toInt := by rw [← E_f213, uo (by have := cln (x := z212) (by omega); omega)]
            have g_f213_2 : (f213 2).toInt = (x121 2).toInt := by rw [← E_f213, uo (by have := cln (x := z212) (by omega); omega)]
            have g_f213_5 : (f213 5).toInt = (x121 5).toInt := by rw [← E_f213, uo (by have := cln (x := z212) (by omega); omega)]
            have g_f213_6 : (f213 6).toInt = (x121 6).toInt := by rw [← E_f213, uo (by have := cln (x := z212) (by omega); omega)]
            have g_f213_7 : (f213 7).toInt = (x121 7).toInt := by rw [← E_f213, uo (by have := cln (x := z212) (by omega); omega)]
            have g_f213_8 : (f213 8).toInt = (x121 8).toInt := by rw [← E_f213, uo (by have := cln (x := z212) (by omega); omega)]
            have g_f213_9 : (f213 9).toInt = (x121 9).toInt := by rw [← E_f213, uo (by have := cln (x := z212) (by omega); omega)]
            obtain ⟨z214, e_z214⟩ : ∃ y : Int32, y = x114 + 1 := ⟨_, rfl⟩
            have t_z214 : z214.toInt = x114.toInt + 1 := by rw [e_z214]; exact addk (by decide) (by omega) (by omega)
            refine lv_iinc (v := z214) (lv' := [(2, .int z214), (3, .int (u206.1 0)), (1, .int z3), (0, .ref h0)]) hx hb dX12_readPlan_89 hl (k := 1) rfl (by rw [e_z214]; rfl) (by decide) rfl (fun ls hl => ?_)
            refine lv_aload_n hx hb dX12_readPlan_92 rfl (lv_at hl 3 rfl) ?_
            refine g_get (C := RX12) (T := TX12) (N := 29) (ci := 12) (v := .int (u206.1 3)) FC hKn hP i_X12 2 rfl rfl 10 (by decide) b_1114 rfl dX12_readPlan_93 ?_
            refine lv_iconst (v := 3) hx hb dX12_readPlan_96 (by decide) ?_
            refine lv_icmp_ne (tgt := 16) hx hb dX12_readPlan_97 (by decide) (fun c215 => ?_) (fun c215 => ?_)
            · have c215 := k_ne (a := (u206.1 3).toInt) (b := 3) rfl (by decide) c215
              exact ih130 z214 (u206.1 1) (u206.1 2) (u206.1 3) (u206.1 4) (u206.1 5) (u206.1 6) f213 _ _ ls (by omega) (by omega) (by omega) (by omega) (by omega) (by omega) a_f213 (by rw [← E_f213]; exact pl_s (n := x114) hi122 (by omega) (by omega) (by omega) (by omega)) (by omega) (by omega) (by omega) (by omega) (by omega) (by omega) (by omega) (hP.sub [2, 1, 0] rfl) (hD.sub [2, 1, 0] (by decide) rfl) hS (lv_sub hl [0, 2, 3] rfl)
            · have c215 := k_eq (a := (u206.1 3).toInt) (b := 3) rfl (by decide) c215
              refine lv_aload_n hx hb dX12_readPlan_100 rfl (lv_at hl 3 rfl) ?_
              refine g_get (C := RX12) (T := TX12) (N := 29) (ci := 12) (v := .ref a14) FC hKn hP i_X12 2 rfl rfl 14 (by decide) b_1132 rfl dX12_readPlan_101 ?_
              refine lv_iload_n hx hb dX12_readPlan_104 rfl (lv_at hl 2 rfl) ?_
              refine lv_iload_n hx hb dX12_readPlan_105 rfl (lv_at hl 0 rfl) ?_
              refine va_iast hx hb hKn.1 hP hD hS 0 0 rfl rfl (vp_in_iff.mpr ⟨by omega, by omega⟩) dX12_readPlan_106 (fun H locs hP hD hS => ?_)
              have hP : va_P g.1 vwCl [(a14, .inl (g.2 0, 225, .inl (upd f213 (z3.toNatClampNeg) z214))), (a4, .inl (g.2 1, 900, .inl mtape)), (h0, .inr (12, [.int mthrown, .ref a1, .ref a2, .ref a3, .ref a4, .int mtaped, .ref a6, .int msize, .int (u206.1 1), .int (u206.1 2), .int (u206.1 3), .int (u206.1 4), .int (u206.1 5), .int (u206.1 6), .ref a14, .ref a15, .int mgoal, .int mgoalDays, .int mgoalHearer, .ref a19, .ref a20, .int mleastOrder, .int mwordsMany, .ref a23, .ref a24, .ref a25, .ref a26, .ref a27, .ref a28]))] H := hP
              have hD : va_D A [(a14, .inl (g.2 0, 225, .inl (upd f213 (z3.toNatClampNeg) z214))), (a4, .inl (g.2 1, 900, .inl mtape)), (h0, .inr (12, [.int mthrown, .ref a1, .ref a2, .ref a3, .ref a4, .int mtaped, .ref a6, .int msize, .int (u206.1 1), .int (u206.1 2), .int (u206.1 3), .int (u206.1 4), .int (u206.1 5), .int (u206.1 6), .ref a14, .ref a15, .int mgoal, .int mgoalDays, .int mgoalHearer, .ref a19, .ref a20, .int mleastOrder, .int mwordsMany, .ref a23, .ref a24, .ref a25, .ref a26, .ref a27, .ref a28]))] := hD
              have a_f216 : wok (upd f213 (z3.toNatClampNeg) z214) := (wx_l a_f213 (q := (mfresh 7).toInt.toNat) (by omega) (by omega) (by omega) (by rw [← E_f213]; exact pl_s (n := x114) hi122 (by omega) (by omega) (by omega) (by omega)))
              generalize E_f216 : (upd f213 (z3.toNatClampNeg) z214 : Nat → Int32) = f216 at hP hD a_f216
              have g_f216_0 : (f216 0).toInt = (f213 0).toInt := by rw [← E_f216, uo (by have := cln (x := z3) (by omega); omega)]
              have g_f216_2 : (f216 2).toInt = (f213 2).toInt := by rw [← E_f216, uo (by have := cln (x := z3) (by omega); omega)]
              have g_f216_5 : (f216 5).toInt = (f213 5).toInt := by rw [← E_f216, uo (by have := cln (x := z3) (by omega); omega)]
              have g_f216_6 : (f216 6).toInt = (f213 6).toInt := by rw [← E_f216, uo (by have := cln (x := z3) (by omega); omega)]
              have g_f216_7 : (f216 7).toInt = (f213 7).toInt := by rw [← E_f216, uo (by have := cln (x := z3) (by omega); omega)]
              have g_f216_8 : (f216 8).toInt = (f213 8).toInt := by rw [← E_f216, uo (by have := cln (x := z3) (by omega); omega)]
              have g_f216_9 : (f216 9).toInt = (f213 9).toInt := by rw [← E_f216, uo (by have := cln (x := z3) (by omega); omega)]
              refine lv_aload_n hx hb dX12_readPlan_107 rfl (lv_at hl 3 rfl) ?_
              refine g_get (C := RX12) (T := TX12) (N := 29) (ci := 12) (v := .ref a14) FC hKn hP i_X12 2 rfl rfl 14 (by decide) b_1132 rfl dX12_readPlan_108 ?_
              refine lv_bipush (v := 7) hx hb dX12_readPlan_111 (by decide) ?_
              refine lv_dup2_11 hx hb dX12_readPlan_113 rfl rfl ?_
              refine va_iald hx hb hKn.1 hP 0 0 rfl rfl (by unfold vp_in; decide) dX12_readPlan_114 ?_
              refine lv_topi (fun z217 e_z217 => ?_)
              have t_z217 : 0 ≤ z217.toInt ∧ z217.toInt ≤ 4 := by rw [e_z217]; exact wk_7 a_f216
              have q_z217 : z217.toInt = (f216 7).toInt := by rw [e_z217]; rfl
              refine lv_iconst (v := 1) hx hb dX12_readPlan_115 (by decide) ?_
              refine lv_iadd hx hb dX12_readPlan_116 ?_
              refine lv_topi (fun z218 e_z218 => ?_)
              have t_z218 : z218.toInt = z217.toInt + ((1 : Int32)).toInt := by rw [e_z218]; exact fb_addI (by omega) (by omega)
              refine va_iast hx hb hKn.1 hP hD hS 0 0 rfl rfl (by unfold vp_in; decide) dX12_readPlan_117 (fun H locs hP hD hS => ?_)
              have hP : va_P g.1 vwCl [(a14, .inl (g.2 0, 225, .inl (upd f216 ((7 : Int32).toNatClampNeg) z218))), (a4, .inl (g.2 1, 900, .inl mtape)), (h0, .inr (12, [.int mthrown, .ref a1, .ref a2, .ref a3, .ref a4, .int mtaped, .ref a6, .int msize, .int (u206.1 1), .int (u206.1 2), .int (u206.1 3), .int (u206.1 4), .int (u206.1 5), .int (u206.1 6), .ref a14, .ref a15, .int mgoal, .int mgoalDays, .int mgoalHearer, .ref a19, .ref a20, .int mleastOrder, .int mwordsMany, .ref a23, .ref a24, .ref a25, .ref a26, .ref a27, .ref a28]))] H := hP
              have hD : va_D A [(a14, .inl (g.2 0, 225, .inl (upd f216 ((7 : Int32).toNatClampNeg) z218))), (a4, .inl (g.2 1, 900, .inl mtape)), (h0, .inr (12, [.int mthrown, .ref a1, .ref a2, .ref a3, .ref a4, .int mtaped, .ref a6, .int msize, .int (u206.1 1), .int (u206.1 2), .int (u206.1 3), .int (u206.1 4), .int (u206.1 5), .int (u206.1 6), .ref a14, .ref a15, .int mgoal, .int mgoalDays, .int mgoalHearer, .ref a19, .ref a20, .int mleastOrder, .int mwordsMany, .ref a23, .ref a24, .ref a25, .ref a26, .ref a27, .ref a28]))] := hD
              have a_f219 : wok (upd f216 ((7 : Int32).toNatClampNeg) z218) := (wk_uc (k := 7) a_f216 (by omega))
              generalize E_f219 : (upd f216 ((7 : Int32).toNatClampNeg) z218 : Nat → Int32) = f219 at hP hD a_f219
              have g_f219_0 : (f219 0).toInt = (f216 0).toInt := by rw [← E_f219]; exact congrArg Int32.toInt (uo (k := 7) (by decide))
              have g_f219_2 : (f219 2).toInt = (f216 2).toInt := by rw [← E_f219]; exact congrArg Int32.toInt (uo (k := 7) (by decide))
              have g_f219_5 : (f219 5).toInt = (f216 5).toInt := by rw [← E_f219]; exact congrArg Int32.toInt (uo (k := 7) (by decide))
              have g_f219_6 : (f219 6).toInt = (f216 6).toInt := by rw [← E_f219]; exact congrArg Int32.toInt (uo (k := 7) (by decide))
              have g_f219_7 : (f219 7).toInt = z218.toInt := by rw [← E_f219]; exact congrArg Int32.toInt (pk_us (k := 7))
              have g_f219_8 : (f219 8).toInt = (f216 8).toInt := by rw [← E_f219]; exact congrArg Int32.toInt (uo (k := 7) (by decide))
              have g_f219_9 : (f219 9).toInt = (f216 9).toInt := by rw [← E_f219]; exact congrArg Int32.toInt (uo (k := 7) (by decide))
              exact rt_v FX ((fun k => match k with | 0 => 0 | 1 => u206.1 1 | 2 => u206.1 2 | 3 => u206.1 3 | 4 => u206.1 4 | 5 => u206.1 5 | 6 => u206.1 6 | _ => 0), (fun k => match k with | 0 => f219 | _ => fun _ => 0), (fun _ => fun _ => 0)) rfl ⟨(show 0 ≤ (u206.1 1).toInt ∧ (u206.1 1).toInt ≤ 900 by omega), (show 0 ≤ (u206.1 2).toInt ∧ (u206.1 2).toInt ≤ 900 by omega), (show 0 ≤ (u206.1 3).toInt ∧ (u206.1 3).toInt ≤ 4 by omega), (show 0 ≤ (u206.1 4).toInt ∧ (u206.1 4).toInt ≤ 99999 by omega), (show 0 ≤ (u206.1 5).toInt ∧ (u206.1 5).toInt ≤ 3 by omega), a_f219, (show 5 * mat.toInt - mtoken.toInt ≤ 5 * (u206.1 1).toInt - (u206.1 3).toInt by omega), (show (u206.1 5).toInt = 0 → mfaultKind.toInt = 0 by omega), (show ((f219) 0).toInt = (mfresh 0).toInt ∧ ((f219) 2).toInt = (mfresh 2).toInt from (show (f219 0).toInt = (mfresh 0).toInt ∧ (f219 2).toInt = (mfresh 2).toInt by omega))⟩ (hP.sub [2, 1, 0] rfl) (hD.sub [2, 1, 0] (by decide) rfl) hS (Nat.le_of_ble_eq_true rfl) (Nat.le_of_ble_eq_true rfl) dX12_readPlan_118
          · skip
            refine tp_i (v := 0) (Int32.toInt_inj.mp (show (u208.1 0).toInt = (0 : Int32).toInt by rw [show (0 : Int32).toInt = 0 by decide]; omega)) ?_
            refine lv_if_ne (tgt := 78) hx hb dX12_readPlan_74 (by decide) (fun h => absurd h (by decide)) (fun _ => ?_)
            exact rt_v FX ((fun k => match k with | 0 => 0 | 1 => u206.1 1 | 2 => u206.1 2 | 3 => u206.1 3 | 4 => u206.1 4 | 5 => u206.1 5 | 6 => u206.1 6 | _ => 0), (fun k => match k with | 0 => x121 | _ => fun _ => 0), (fun _ => fun _ => 0)) rfl ⟨(show 0 ≤ (u206.1 1).toInt ∧ (u206.1 1).toInt ≤ 900 by omega), (show 0 ≤ (u206.1 2).toInt ∧ (u206.1 2).toInt ≤ 900 by omega), (show 0 ≤ (u206.1 3).toInt ∧ (u206.1 3).toInt ≤ 4 by omega), (show 0 ≤ (u206.1 4).toInt ∧ (u206.1 4).toInt ≤ 99999 by omega), (show 0 ≤ (u206.1 5).toInt ∧ (u206.1 5).toInt ≤ 3 by omega), h_x121, (show 5 * mat.toInt - mtoken.toInt ≤ 5 * (u206.1 1).toInt - (u206.1 3).toInt by omega), (show (u206.1 5).toInt = 0 → mfaultKind.toInt = 0 by omega), (show ((x121) 0).toInt = (mfresh 0).toInt ∧ ((x121) 2).toInt = (mfresh 2).toInt from (show (x121 0).toInt = (mfresh 0).toInt ∧ (x121 2).toInt = (mfresh 2).toInt by omega))⟩ (hP.sub [2, 1, 0] rfl) (hD.sub [2, 1, 0] (by decide) rfl) hS (Nat.le_of_ble_eq_true rfl) (Nat.le_of_ble_eq_true rfl) dX12_readPlan_77
  have kc0 : (0 : Int32).toInt = 0 := by decide
  exact lp129 _ (0 : Int32) mat mfrom mtoken mvalue mfaultKind mfaultPlace mfresh _ _ ls (by decide) (by omega) (by omega) (by omega) (by omega) (by omega) i_mfresh (fun i _ hl => absurd hl (by rw [show (0 : Int32).toInt = 0 by decide]; omega)) (by omega) (by omega) (by omega) (by omega) (by omega) (by omega) (Nat.lt_succ_self _) hP hD hS (lv_sub hl [0, 1, 2] rfl)
set_option maxRecDepth 100000 in
set_option maxHeartbeats 4000000 in
theorem k_X12_readNews (l : Launch) (g : GG) (h0 : Nat) (a1 : Nat) (a2 : Nat) (a3 : Nat) (a4 : Nat) (a6 : Nat) (a14 : Nat) (a15 : Nat) (a19 : Nat) (a20 : Nat) (a23 : Nat) (a24 : Nat) (a25 : Nat) (a26 : Nat) (a27 : Nat) (a28 : Nat) (mthrown : Int32) (mtaped : Int32) (msize : Int32) (mat : Int32) (mfrom : Int32) (mtoken : Int32) (mvalue : Int32) (mfaultKind : Int32) (mfaultPlace : Int32) (mgoal : Int32) (mgoalDays : Int32) (mgoalHearer : Int32) (mleastOrder : Int32) (mwordsMany : Int32) (mtape : Nat → Int32) (mfresh : Nat → Int32) (i_mtaped : 0 ≤ mtaped.toInt ∧ mtaped.toInt ≤ 900) (i_msize : 0 ≤ msize.toInt ∧ msize.toInt ≤ 900) (i_mat : 0 ≤ mat.toInt ∧ mat.toInt ≤ 900) (i_mfrom : 0 ≤ mfrom.toInt ∧ mfrom.toInt ≤ 900) (i_mtoken : 0 ≤ mtoken.toInt ∧ mtoken.toInt ≤ 4) (i_mvalue : 0 ≤ mvalue.toInt ∧ mvalue.toInt ≤ 99999) (i_mfaultKind : 0 ≤ mfaultKind.toInt ∧ mfaultKind.toInt ≤ 3) (i_mgoalHearer : 0 ≤ mgoalHearer.toInt ∧ mgoalHearer.toInt ≤ 3) (i_mwordsMany : 0 ≤ mwordsMany.toInt ∧ mwordsMany.toInt ≤ 10) (i_mfresh : wok mfresh) (h8 : (mfresh 8).toInt ≤ 5) : Ct l g yX12_readNews cX12_readNews 3 none { frames := 7, cells := 0, slots := 0, locals := 151 } [.ref h0] [(h0, .inr (12, [.int mthrown, .ref a1, .ref a2, .ref a3, .ref a4, .int mtaped, .ref a6, .int msize, .int mat, .int mfrom, .int mtoken, .int mvalue, .int mfaultKind, .int mfaultPlace, .ref a14, .ref a15, .int mgoal, .int mgoalDays, .int mgoalHearer, .ref a19, .ref a20, .int mleastOrder, .int mwordsMany, .ref a23, .ref a24, .ref a25, .ref a26, .ref a27, .ref a28])), (a4, .inl (g.2 1, 900, .inl mtape)), (a14, .inl (g.2 0, 225, .inl mfresh))] (S := (Nat → Int32) × (Nat → Nat → Int32) × (Nat → Nat → Int64)) (fun _ => none) (fun u => (0 ≤ (u.1 1).toInt ∧ (u.1 1).toInt ≤ 900) ∧ (0 ≤ (u.1 2).toInt ∧ (u.1 2).toInt ≤ 900) ∧ (0 ≤ (u.1 3).toInt ∧ (u.1 3).toInt ≤ 4) ∧ (0 ≤ (u.1 4).toInt ∧ (u.1 4).toInt ≤ 99999) ∧ (0 ≤ (u.1 5).toInt ∧ (u.1 5).toInt ≤ 3) ∧ (wok (u.2.1 0)) ∧ (5 * mat.toInt - mtoken.toInt ≤ 5 * (u.1 1).toInt - (u.1 3).toInt) ∧ ((u.1 5).toInt = 0 → mfaultKind.toInt = 0) ∧ (((u.2.1 0) 0).toInt = (mfresh 0).toInt ∧ ((u.2.1 0) 2).toInt = (mfresh 2).toInt)) (fun u => [(h0, .inr (12, [.int mthrown, .ref a1, .ref a2, .ref a3, .ref a4, .int mtaped, .ref a6, .int msize, .int (u.1 1), .int (u.1 2), .int (u.1 3), .int (u.1 4), .int (u.1 5), .int (u.1 6), .ref a14, .ref a15, .int mgoal, .int mgoalDays, .int mgoalHearer, .ref a19, .ref a20, .int mleastOrder, .int mwordsMany, .ref a23, .ref a24, .ref a25, .ref a26, .ref a27, .ref a28])), (a4, .inl (g.2 1, 900, .inl mtape)), (a14, .inl (g.2 0, 225, .inl (u.2.1 0)))]) := by
  refine Ct.of (by decide) (Nat.le_of_ble_eq_true rfl) ?_
  intro p e s m below meth c A ls FX hP hD hS hl
  obtain ⟨FC, hr, hlk, hKn, hA, hnm, hZ⟩ := id FX
  have FC : CallFix p m c cX12_readNews 3 s _ BIG RX12 := FC
  obtain ⟨hx, hb, hml, hown, hB⟩ := id FC
  have hl : lv_has ls 3 [(0, .ref h0)] := hl
  refine lv_aload_n hx hb dX12_readNews_0 rfl (lv_at hl 0 rfl) ?_
  refine va_ldcS hx hb hown (hZ.2.2 34 _ rfl).1 dX12_readNews_1 ?_
  refine call_V (As := [.ref (sa g 34)]) (rest := []) (wr := [(a14, .inl (g.2 0, 225, .inl mfresh))]) FC hKn hZ (k_X12_takes l g 34 h0 a1 a2 a3 a4 a6 a14 a15 a19 a20 a23 a24 a25 a26 a27 a28 mthrown mtaped msize mat mfrom mtoken mvalue mfaultKind mfaultPlace mgoal mgoalDays mgoalHearer mleastOrder mwordsMany mtape (by omega) (by omega) (by omega) (by omega) (by omega) (by omega) (by omega) (by omega) (by omega) (by omega)) m_yX12_takes b_1128 (ci := 12) rfl rfl rfl hP hD hS hA [0, 1] [2] rfl (by decide) rfl (by decide) (by decide) rfl hl.1 rfl (Nat.le_of_ble_eq_true rfl) dX12_readNews_3 ⟨(Nat.le_of_ble_eq_true rfl), (Nat.le_of_ble_eq_true rfl)⟩ ⟨(Nat.le_of_ble_eq_true rfl), (Nat.le_of_ble_eq_true rfl)⟩ (fun u1 H locs q2 hP hD hS => ?_)
  obtain ⟨q2_0, q2_1, q2_2, q2_3, q2_4, q2_5, q2_6, q2_7, q2_8⟩ := q2
  have hP : va_P g.1 vwCl [(a14, .inl (g.2 0, 225, .inl mfresh)), (h0, .inr (12, [.int mthrown, .ref a1, .ref a2, .ref a3, .ref a4, .int mtaped, .ref a6, .int msize, .int (u1.1 1), .int (u1.1 2), .int (u1.1 3), .int (u1.1 4), .int mfaultKind, .int mfaultPlace, .ref a14, .ref a15, .int mgoal, .int mgoalDays, .int mgoalHearer, .ref a19, .ref a20, .int mleastOrder, .int mwordsMany, .ref a23, .ref a24, .ref a25, .ref a26, .ref a27, .ref a28])), (a4, .inl (g.2 1, 900, .inl mtape))] H := hP
  have hD : va_D A [(a14, .inl (g.2 0, 225, .inl mfresh)), (h0, .inr (12, [.int mthrown, .ref a1, .ref a2, .ref a3, .ref a4, .int mtaped, .ref a6, .int msize, .int (u1.1 1), .int (u1.1 2), .int (u1.1 3), .int (u1.1 4), .int mfaultKind, .int mfaultPlace, .ref a14, .ref a15, .int mgoal, .int mgoalDays, .int mgoalHearer, .ref a19, .ref a20, .int mleastOrder, .int mwordsMany, .ref a23, .ref a24, .ref a25, .ref a26, .ref a27, .ref a28])), (a4, .inl (g.2 1, 900, .inl mtape))] := hD
  refine W.eq (g2 := F0 m 6 ls [.int (u1.1 0)]) rfl ?_
  rw [q2_5] at q2_0
  rw [q2_5] at q2_6
  rw [q2_5] at q2_8
  refine tp_i (v := isF mfaultKind mtoken mat mfrom mtape 34) q2_5 ?_
  rcases (show (isF mfaultKind mtoken mat mfrom mtape 34).toInt = 0 ∨ (isF mfaultKind mtoken mat mfrom mtape 34).toInt = 1 by omega) with c3 | c3
  · obtain ⟨w1, w2, w3, w4⟩ := q2_6 c3
    rw [w1, w2, w3, w4] at hP hD
    have hP : va_P g.1 vwCl [(a14, .inl (g.2 0, 225, .inl mfresh)), (h0, .inr (12, [.int mthrown, .ref a1, .ref a2, .ref a3, .ref a4, .int mtaped, .ref a6, .int msize, .int mat, .int mfrom, .int mtoken, .int mvalue, .int mfaultKind, .int mfaultPlace, .ref a14, .ref a15, .int mgoal, .int mgoalDays, .int mgoalHearer, .ref a19, .ref a20, .int mleastOrder, .int mwordsMany, .ref a23, .ref a24, .ref a25, .ref a26, .ref a27, .ref a28])), (a4, .inl (g.2 1, 900, .inl mtape))] H := hP
    have hD : va_D A [(a14, .inl (g.2 0, 225, .inl mfresh)), (h0, .inr (12, [.int mthrown, .ref a1, .ref a2, .ref a3, .ref a4, .int mtaped, .ref a6, .int msize, .int mat, .int mfrom, .int mtoken, .int mvalue, .int mfaultKind, .int mfaultPlace, .ref a14, .ref a15, .int mgoal, .int mgoalDays, .int mgoalHearer, .ref a19, .ref a20, .int mleastOrder, .int mwordsMany, .ref a23, .ref a24, .ref a25, .ref a26, .ref a27, .ref a28])), (a4, .inl (g.2 1, 900, .inl mtape))] := hD
    refine lv_istore_n (lv' := [(1, .int (isF mfaultKind mtoken mat mfrom mtape 34)), (0, .ref h0)]) hx hb dX12_readNews_6 rfl hl (by decide) rfl (fun ls hl => ?_)
    refine lv_iload_n hx hb dX12_readNews_7 rfl (lv_at hl 0 rfl) ?_
    refine lv_if_ne (tgt := 17) hx hb dX12_readNews_8 (by decide) (fun c4 => ?_) (fun c4 => ?_)
    · have c4 := k_ne (a := (isF mfaultKind mtoken mat mfrom mtape 34).toInt) (b := 0) rfl (by decide) c4
      exfalso; omega
    · have c4 := k_eq (a := (isF mfaultKind mtoken mat mfrom mtape 34).toInt) (b := 0) rfl (by decide) c4
      refine lv_aload_n hx hb dX12_readNews_11 rfl (lv_at hl 1 rfl) ?_
      refine va_ldcS hx hb hown (hZ.2.2 35 _ rfl).1 dX12_readNews_12 ?_
      refine call_V (As := [.ref (sa g 35)]) (rest := []) (wr := [(a14, .inl (g.2 0, 225, .inl mfresh))]) FC hKn hZ (k_X12_needs l g 35 h0 a1 a2 a3 a4 a6 a14 a15 a19 a20 a23 a24 a25 a26 a27 a28 mthrown mtaped msize mat mfrom mtoken mvalue mfaultKind mfaultPlace mgoal mgoalDays mgoalHearer mleastOrder mwordsMany mtape (by omega) (by omega) (by omega) (by omega) (by omega) (by omega) (by omega) (by omega) (by omega) (by omega)) m_yX12_needs b_1130 (ci := 12) rfl rfl rfl hP hD hS hA [1, 2] [0] rfl (by decide) rfl (by decide) (by decide) rfl hl.1 rfl (Nat.le_of_ble_eq_true rfl) dX12_readNews_14 ⟨(Nat.le_of_ble_eq_true rfl), (Nat.le_of_ble_eq_true rfl)⟩ ⟨(Nat.le_of_ble_eq_true rfl), (Nat.le_of_ble_eq_true rfl)⟩ (fun u5 H locs q6 hP hD hS => ?_)
      obtain ⟨q6_0, q6_1, q6_2, q6_3, q6_4, q6_5, q6_6⟩ := q6
      have hP : va_P g.1 vwCl [(a14, .inl (g.2 0, 225, .inl mfresh)), (h0, .inr (12, [.int mthrown, .ref a1, .ref a2, .ref a3, .ref a4, .int mtaped, .ref a6, .int msize, .int (u5.1 1), .int (u5.1 2), .int (u5.1 3), .int (u5.1 4), .int (u5.1 5), .int (u5.1 6), .ref a14, .ref a15, .int mgoal, .int mgoalDays, .int mgoalHearer, .ref a19, .ref a20, .int mleastOrder, .int mwordsMany, .ref a23, .ref a24, .ref a25, .ref a26, .ref a27, .ref a28])), (a4, .inl (g.2 1, 900, .inl mtape))] H := hP
      have hD : va_D A [(a14, .inl (g.2 0, 225, .inl mfresh)), (h0, .inr (12, [.int mthrown, .ref a1, .ref a2, .ref a3, .ref a4, .int mtaped, .ref a6, .int msize, .int (u5.1 1), .int (u5.1 2), .int (u5.1 3), .int (u5.1 4), .int (u5.1 5), .int (u5.1 6), .ref a14, .ref a15, .int mgoal, .int mgoalDays, .int mgoalHearer, .ref a19, .ref a20, .int mleastOrder, .int mwordsMany, .ref a23, .ref a24, .ref a25, .ref a26, .ref a27, .ref a28])), (a4, .inl (g.2 1, 900, .inl mtape))] := hD
      refine W.eq (g2 := F0 m 17 ls []) rfl ?_
      refine lv_aload_n hx hb dX12_readNews_17 rfl (lv_at hl 1 rfl) ?_
      refine lv_iconst (v := 1) hx hb dX12_readNews_18 (by decide) ?_
      refine lv_bipush (v := 99) hx hb dX12_readNews_19 (by decide) ?_
      have kc1 : (1 : Int32).toInt = 1 := by decide
      have kc99 : (99 : Int32).toInt = 99 := by decide
      refine call_V (As := [.int 1, .int 99]) (rest := []) (wr := [(a14, .inl (g.2 0, 225, .inl mfresh))]) FC hKn hZ (k_X12_number l g h0 a1 a2 a3 a4 a6 a14 a15 a19 a20 a23 a24 a25 a26 a27 a28 mthrown mtaped msize (u5.1 1) (u5.1 2) (u5.1 3) (u5.1 4) (u5.1 5) (u5.1 6) mgoal mgoalDays mgoalHearer mleastOrder mwordsMany mtape ((1 : Int32)) ((99 : Int32)) (by omega) (by omega) (by omega) (by omega) (by omega) (by omega) (by omega) (by omega) (by omega)) m_yX12_number b_1131 (ci := 12) rfl rfl rfl hP hD hS hA [1, 2] [0] rfl (by decide) rfl (by decide) (by decide) rfl hl.1 rfl (Nat.le_of_ble_eq_true rfl) dX12_readNews_21 ⟨(Nat.le_of_ble_eq_true rfl), (Nat.le_of_ble_eq_true rfl)⟩ ⟨(Nat.le_of_ble_eq_true rfl), (Nat.le_of_ble_eq_true rfl)⟩ (fun u7 H locs q8 hP hD hS => ?_)
      obtain ⟨q8_0, q8_1, q8_2, q8_3, q8_4, q8_5, q8_6, q8_7, q8_8, q8_9⟩ := q8
      have hP : va_P g.1 vwCl [(a14, .inl (g.2 0, 225, .inl mfresh)), (h0, .inr (12, [.int mthrown, .ref a1, .ref a2, .ref a3, .ref a4, .int mtaped, .ref a6, .int msize, .int (u7.1 1), .int (u7.1 2), .int (u7.1 3), .int (u7.1 4), .int (u7.1 5), .int (u7.1 6), .ref a14, .ref a15, .int mgoal, .int mgoalDays, .int mgoalHearer, .ref a19, .ref a20, .int mleastOrder, .int mwordsMany, .ref a23, .ref a24, .ref a25, .ref a26, .ref a27, .ref a28])), (a4, .inl (g.2 1, 900, .inl mtape))] H := hP
      have hD : va_D A [(a14, .inl (g.2 0, 225, .inl mfresh)), (h0, .inr (12, [.int mthrown, .ref a1, .ref a2, .ref a3, .ref a4, .int mtaped, .ref a6, .int msize, .int (u7.1 1), .int (u7.1 2), .int (u7.1 3), .int (u7.1 4), .int (u7.1 5), .int (u7.1 6), .ref a14, .ref a15, .int mgoal, .int mgoalDays, .int mgoalHearer, .ref a19, .ref a20, .int mleastOrder, .int mwordsMany, .ref a23, .ref a24, .ref a25, .ref a26, .ref a27, .ref a28])), (a4, .inl (g.2 1, 900, .inl mtape))] := hD
      refine W.eq (g2 := F0 m 24 ls [.int (u7.1 0)]) rfl ?_
      refine lv_istore_n (lv' := [(2, .int (u7.1 0)), (1, .int (isF mfaultKind mtoken mat mfrom mtape 34)), (0, .ref h0)]) hx hb dX12_readNews_24 rfl hl (by decide) rfl (fun ls hl => ?_)
      refine lv_aload_n hx hb dX12_readNews_25 rfl (lv_at hl 2 rfl) ?_
      refine g_get (C := RX12) (T := TX12) (N := 29) (ci := 12) (v := .ref a14) FC hKn hP i_X12 1 rfl rfl 14 (by decide) b_1132 rfl dX12_readNews_26 ?_
      refine lv_bipush (v := 95) hx hb dX12_readNews_29 (by decide) ?_
      refine lv_aload_n hx hb dX12_readNews_31 rfl (lv_at hl 2 rfl) ?_
      refine g_get (C := RX12) (T := TX12) (N := 29) (ci := 12) (v := .ref a14) FC hKn hP i_X12 1 rfl rfl 14 (by decide) b_1132 rfl dX12_readNews_32 ?_
      refine lv_bipush (v := 8) hx hb dX12_readNews_35 (by decide) ?_
      refine va_iald hx hb hKn.1 hP 0 0 rfl rfl (by unfold vp_in; decide) dX12_readNews_37 ?_
      have kc8 : (8 : Int32).toInt = 8 := by decide
      refine lv_topi (fun z9 e_z9 => ?_)
      have t_z9 : 0 ≤ z9.toInt ∧ z9.toInt ≤ 6 := by rw [e_z9]; exact wk_8 i_mfresh
      have q_z9 : z9.toInt = (mfresh 8).toInt := by rw [e_z9]; rfl
      refine lv_iadd hx hb dX12_readNews_38 ?_
      have kc95 : (95 : Int32).toInt = 95 := by decide
      refine lv_topi (fun z10 e_z10 => ?_)
      have t_z10 : z10.toInt = ((95 : Int32)).toInt + z9.toInt := by rw [e_z10]; exact fb_addI (by omega) (by omega)
      refine lv_iload_n hx hb dX12_readNews_39 rfl (lv_at hl 1 rfl) ?_
      refine lv_if_eq (tgt := 47) hx hb dX12_readNews_40 (by decide) (fun c11 => ?_) (fun c11 => ?_)
      · have c11 := k_eq (a := (isF mfaultKind mtoken mat mfrom mtape 34).toInt) (b := 0) rfl (by decide) c11
        refine lv_iload_n hx hb dX12_readNews_47 rfl (lv_at hl 0 rfl) ?_
        refine lv_ineg hx hb dX12_readNews_48 ?_
        refine lv_topi (fun z12 e_z12 => ?_)
        refine va_iast hx hb hKn.1 hP hD hS 0 0 rfl rfl (vp_in_iff.mpr ⟨by omega, by omega⟩) dX12_readNews_49 (fun H locs hP hD hS => ?_)
        have hP : va_P g.1 vwCl [(a14, .inl (g.2 0, 225, .inl (upd mfresh (z10.toNatClampNeg) z12))), (h0, .inr (12, [.int mthrown, .ref a1, .ref a2, .ref a3, .ref a4, .int mtaped, .ref a6, .int msize, .int (u7.1 1), .int (u7.1 2), .int (u7.1 3), .int (u7.1 4), .int (u7.1 5), .int (u7.1 6), .ref a14, .ref a15, .int mgoal, .int mgoalDays, .int mgoalHearer, .ref a19, .ref a20, .int mleastOrder, .int mwordsMany, .ref a23, .ref a24, .ref a25, .ref a26, .ref a27, .ref a28])), (a4, .inl (g.2 1, 900, .inl mtape))] H := hP
        have hD : va_D A [(a14, .inl (g.2 0, 225, .inl (upd mfresh (z10.toNatClampNeg) z12))), (h0, .inr (12, [.int mthrown, .ref a1, .ref a2, .ref a3, .ref a4, .int mtaped, .ref a6, .int msize, .int (u7.1 1), .int (u7.1 2), .int (u7.1 3), .int (u7.1 4), .int (u7.1 5), .int (u7.1 6), .ref a14, .ref a15, .int mgoal, .int mgoalDays, .int mgoalHearer, .ref a19, .ref a20, .int mleastOrder, .int mwordsMany, .ref a23, .ref a24, .ref a25, .ref a26, .ref a27, .ref a28])), (a4, .inl (g.2 1, 900, .inl mtape))] := hD
        have a_f13 : wok (upd mfresh (z10.toNatClampNeg) z12) := (wx_f i_mfresh (by omega) (by omega))
        generalize E_f13 : (upd mfresh (z10.toNatClampNeg) z12 : Nat → Int32) = f13 at hP hD a_f13
        have g_f13_0 : (f13 0).toInt = (mfresh 0).toInt := by rw [← E_f13, uo (by have := cln (x := z10) (by omega); omega)]
        have g_f13_2 : (f13 2).toInt = (mfresh 2).toInt := by rw [← E_f13, uo (by have := cln (x := z10) (by omega); omega)]
        have g_f13_5 : (f13 5).toInt = (mfresh 5).toInt := by rw [← E_f13, uo (by have := cln (x := z10) (by omega); omega)]
        have g_f13_6 : (f13 6).toInt = (mfresh 6).toInt := by rw [← E_f13, uo (by have := cln (x := z10) (by omega); omega)]
        have g_f13_7 : (f13 7).toInt = (mfresh 7).toInt := by rw [← E_f13, uo (by have := cln (x := z10) (by omega); omega)]
        have g_f13_8 : (f13 8).toInt = (mfresh 8).toInt := by rw [← E_f13, uo (by have := cln (x := z10) (by omega); omega)]
        have g_f13_9 : (f13 9).toInt = (mfresh 9).toInt := by rw [← E_f13, uo (by have := cln (x := z10) (by omega); omega)]
        refine lv_aload_n hx hb dX12_readNews_50 rfl (lv_at hl 2 rfl) ?_
        refine g_get (C := RX12) (T := TX12) (N := 29) (ci := 12) (v := .ref a14) FC hKn hP i_X12 1 rfl rfl 14 (by decide) b_1132 rfl dX12_readNews_51 ?_
        refine lv_bipush (v := 8) hx hb dX12_readNews_54 (by decide) ?_
        refine lv_dup2_11 hx hb dX12_readNews_56 rfl rfl ?_
        refine va_iald hx hb hKn.1 hP 0 0 rfl rfl (by unfold vp_in; decide) dX12_readNews_57 ?_
        refine lv_topi (fun z14 e_z14 => ?_)
        have t_z14 : 0 ≤ z14.toInt ∧ z14.toInt ≤ 6 := by rw [e_z14]; exact wk_8 a_f13
        have q_z14 : z14.toInt = (f13 8).toInt := by rw [e_z14]; rfl
        refine lv_iconst (v := 1) hx hb dX12_readNews_58 (by decide) ?_
        refine lv_iadd hx hb dX12_readNews_59 ?_
        refine lv_topi (fun z15 e_z15 => ?_)
        have t_z15 : z15.toInt = z14.toInt + ((1 : Int32)).toInt := by rw [e_z15]; exact fb_addI (by omega) (by omega)
        refine va_iast hx hb hKn.1 hP hD hS 0 0 rfl rfl (by unfold vp_in; decide) dX12_readNews_60 (fun H locs hP hD hS => ?_)
        have hP : va_P g.1 vwCl [(a14, .inl (g.2 0, 225, .inl (upd f13 ((8 : Int32).toNatClampNeg) z15))), (h0, .inr (12, [.int mthrown, .ref a1, .ref a2, .ref a3, .ref a4, .int mtaped, .ref a6, .int msize, .int (u7.1 1), .int (u7.1 2), .int (u7.1 3), .int (u7.1 4), .int (u7.1 5), .int (u7.1 6), .ref a14, .ref a15, .int mgoal, .int mgoalDays, .int mgoalHearer, .ref a19, .ref a20, .int mleastOrder, .int mwordsMany, .ref a23, .ref a24, .ref a25, .ref a26, .ref a27, .ref a28])), (a4, .inl (g.2 1, 900, .inl mtape))] H := hP
        have hD : va_D A [(a14, .inl (g.2 0, 225, .inl (upd f13 ((8 : Int32).toNatClampNeg) z15))), (h0, .inr (12, [.int mthrown, .ref a1, .ref a2, .ref a3, .ref a4, .int mtaped, .ref a6, .int msize, .int (u7.1 1), .int (u7.1 2), .int (u7.1 3), .int (u7.1 4), .int (u7.1 5), .int (u7.1 6), .ref a14, .ref a15, .int mgoal, .int mgoalDays, .int mgoalHearer, .ref a19, .ref a20, .int mleastOrder, .int mwordsMany, .ref a23, .ref a24, .ref a25, .ref a26, .ref a27, .ref a28])), (a4, .inl (g.2 1, 900, .inl mtape))] := hD
        have a_f16 : wok (upd f13 ((8 : Int32).toNatClampNeg) z15) := (wk_uc (k := 8) a_f13 (by omega))
        generalize E_f16 : (upd f13 ((8 : Int32).toNatClampNeg) z15 : Nat → Int32) = f16 at hP hD a_f16
        have g_f16_0 : (f16 0).toInt = (f13 0).toInt := by rw [← E_f16]; exact congrArg Int32.toInt (uo (k := 8) (by decide))
        have g_f16_2 : (f16 2).toInt = (f13 2).toInt := by rw [← E_f16]; exact congrArg Int32.toInt (uo (k := 8) (by decide))
        have g_f16_5 : (f16 5).toInt = (f13 5).toInt := by rw [← E_f16]; exact congrArg Int32.toInt (uo (k := 8) (by decide))
        have g_f16_6 : (f16 6).toInt = (f13 6).toInt := by rw [← E_f16]; exact congrArg Int32.toInt (uo (k := 8) (by decide))
        have g_f16_7 : (f16 7).toInt = (f13 7).toInt := by rw [← E_f16]; exact congrArg Int32.toInt (uo (k := 8) (by decide))
        have g_f16_8 : (f16 8).toInt = z15.toInt := by rw [← E_f16]; exact congrArg Int32.toInt (pk_us (k := 8))
        have g_f16_9 : (f16 9).toInt = (f13 9).toInt := by rw [← E_f16]; exact congrArg Int32.toInt (uo (k := 8) (by decide))
        exact rt_v FX ((fun k => match k with | 0 => 0 | 1 => u7.1 1 | 2 => u7.1 2 | 3 => u7.1 3 | 4 => u7.1 4 | 5 => u7.1 5 | 6 => u7.1 6 | _ => 0), (fun k => match k with | 0 => f16 | _ => fun _ => 0), (fun _ => fun _ => 0)) rfl ⟨(show 0 ≤ (u7.1 1).toInt ∧ (u7.1 1).toInt ≤ 900 by omega), (show 0 ≤ (u7.1 2).toInt ∧ (u7.1 2).toInt ≤ 900 by omega), (show 0 ≤ (u7.1 3).toInt ∧ (u7.1 3).toInt ≤ 4 by omega), (show 0 ≤ (u7.1 4).toInt ∧ (u7.1 4).toInt ≤ 99999 by omega), (show 0 ≤ (u7.1 5).toInt ∧ (u7.1 5).toInt ≤ 3 by omega), a_f16, (show 5 * mat.toInt - mtoken.toInt ≤ 5 * (u7.1 1).toInt - (u7.1 3).toInt by omega), (show (u7.1 5).toInt = 0 → mfaultKind.toInt = 0 by omega), (show ((f16) 0).toInt = (mfresh 0).toInt ∧ ((f16) 2).toInt = (mfresh 2).toInt from (show (f16 0).toInt = (mfresh 0).toInt ∧ (f16 2).toInt = (mfresh 2).toInt by omega))⟩ (hP.sub [1, 2, 0] rfl) (hD.sub [1, 2, 0] (by decide) rfl) hS (Nat.le_of_ble_eq_true rfl) (Nat.le_of_ble_eq_true rfl) dX12_readNews_61
      · have c11 := k_ne (a := (isF mfaultKind mtoken mat mfrom mtape 34).toInt) (b := 0) rfl (by decide) c11
        exfalso; omega
  · skip
    refine lv_istore_n (lv' := [(1, .int (isF mfaultKind mtoken mat mfrom mtape 34)), (0, .ref h0)]) hx hb dX12_readNews_6 rfl hl (by decide) rfl (fun ls hl => ?_)
    refine lv_iload_n hx hb dX12_readNews_7 rfl (lv_at hl 0 rfl) ?_
    refine lv_if_ne (tgt := 17) hx hb dX12_readNews_8 (by decide) (fun c17 => ?_) (fun c17 => ?_)
    · have c17 := k_ne (a := (isF mfaultKind mtoken mat mfrom mtape 34).toInt) (b := 0) rfl (by decide) c17
      refine lv_aload_n hx hb dX12_readNews_17 rfl (lv_at hl 1 rfl) ?_
      refine lv_iconst (v := 1) hx hb dX12_readNews_18 (by decide) ?_
      refine lv_bipush (v := 99) hx hb dX12_readNews_19 (by decide) ?_
      have kc1 : (1 : Int32).toInt = 1 := by decide
      have kc99 : (99 : Int32).toInt = 99 := by decide
      refine call_V (As := [.int 1, .int 99]) (rest := []) (wr := [(a14, .inl (g.2 0, 225, .inl mfresh))]) FC hKn hZ (k_X12_number l g h0 a1 a2 a3 a4 a6 a14 a15 a19 a20 a23 a24 a25 a26 a27 a28 mthrown mtaped msize (u1.1 1) (u1.1 2) (u1.1 3) (u1.1 4) mfaultKind mfaultPlace mgoal mgoalDays mgoalHearer mleastOrder mwordsMany mtape ((1 : Int32)) ((99 : Int32)) (by omega) (by omega) (by omega) (by omega) (by omega) (by omega) (by omega) (by omega) (by omega)) m_yX12_number b_1131 (ci := 12) rfl rfl rfl hP hD hS hA [1, 2] [0] rfl (by decide) rfl (by decide) (by decide) rfl hl.1 rfl (Nat.le_of_ble_eq_true rfl) dX12_readNews_21 ⟨(Nat.le_of_ble_eq_true rfl), (Nat.le_of_ble_eq_true rfl)⟩ ⟨(Nat.le_of_ble_eq_true rfl), (Nat.le_of_ble_eq_true rfl)⟩ (fun u18 H locs q19 hP hD hS => ?_)
      obtain ⟨q19_0, q19_1, q19_2, q19_3, q19_4, q19_5, q19_6, q19_7, q19_8, q19_9⟩ := q19
      have hP : va_P g.1 vwCl [(a14, .inl (g.2 0, 225, .inl mfresh)), (h0, .inr (12, [.int mthrown, .ref a1, .ref a2, .ref a3, .ref a4, .int mtaped, .ref a6, .int msize, .int (u18.1 1), .int (u18.1 2), .int (u18.1 3), .int (u18.1 4), .int (u18.1 5), .int (u18.1 6), .ref a14, .ref a15, .int mgoal, .int mgoalDays, .int mgoalHearer, .ref a19, .ref a20, .int mleastOrder, .int mwordsMany, .ref a23, .ref a24, .ref a25, .ref a26, .ref a27, .ref a28])), (a4, .inl (g.2 1, 900, .inl mtape))] H := hP
      have hD : va_D A [(a14, .inl (g.2 0, 225, .inl mfresh)), (h0, .inr (12, [.int mthrown, .ref a1, .ref a2, .ref a3, .ref a4, .int mtaped, .ref a6, .int msize, .int (u18.1 1), .int (u18.1 2), .int (u18.1 3), .int (u18.1 4), .int (u18.1 5), .int (u18.1 6), .ref a14, .ref a15, .int mgoal, .int mgoalDays, .int mgoalHearer, .ref a19, .ref a20, .int mleastOrder, .int mwordsMany, .ref a23, .ref a24, .ref a25, .ref a26, .ref a27, .ref a28])), (a4, .inl (g.2 1, 900, .inl mtape))] := hD
      refine W.eq (g2 := F0 m 24 ls [.int (u18.1 0)]) rfl ?_
      refine lv_istore_n (lv' := [(2, .int (u18.1 0)), (1, .int (isF mfaultKind mtoken mat mfrom mtape 34)), (0, .ref h0)]) hx hb dX12_readNews_24 rfl hl (by decide) rfl (fun ls hl => ?_)
      refine lv_aload_n hx hb dX12_readNews_25 rfl (lv_at hl 2 rfl) ?_
      refine g_get (C := RX12) (T := TX12) (N := 29) (ci := 12) (v := .ref a14) FC hKn hP i_X12 1 rfl rfl 14 (by decide) b_1132 rfl dX12_readNews_26 ?_
      refine lv_bipush (v := 95) hx hb dX12_readNews_29 (by decide) ?_
      refine lv_aload_n hx hb dX12_readNews_31 rfl (lv_at hl 2 rfl) ?_
      refine g_get (C := RX12) (T := TX12) (N := 29) (ci := 12) (v := .ref a14) FC hKn hP i_X12 1 rfl rfl 14 (by decide) b_1132 rfl dX12_readNews_32 ?_
      refine lv_bipush (v := 8) hx hb dX12_readNews_35 (by decide) ?_
      refine va_iald hx hb hKn.1 hP 0 0 rfl rfl (by unfold vp_in; decide) dX12_readNews_37 ?_
      have kc8 : (8 : Int32).toInt = 8 := by decide
      refine lv_topi (fun z20 e_z20 => ?_)
      have t_z20 : 0 ≤ z20.toInt ∧ z20.toInt ≤ 6 := by rw [e_z20]; exact wk_8 i_mfresh
      have q_z20 : z20.toInt = (mfresh 8).toInt := by rw [e_z20]; rfl
      refine lv_iadd hx hb dX12_readNews_38 ?_
      have kc95 : (95 : Int32).toInt = 95 := by decide
      refine lv_topi (fun z21 e_z21 => ?_)
      have t_z21 : z21.toInt = ((95 : Int32)).toInt + z20.toInt := by rw [e_z21]; exact fb_addI (by omega) (by omega)
      refine lv_iload_n hx hb dX12_readNews_39 rfl (lv_at hl 1 rfl) ?_
      refine lv_if_eq (tgt := 47) hx hb dX12_readNews_40 (by decide) (fun c22 => ?_) (fun c22 => ?_)
      · have c22 := k_eq (a := (isF mfaultKind mtoken mat mfrom mtape 34).toInt) (b := 0) rfl (by decide) c22
        exfalso; omega
      · have c22 := k_ne (a := (isF mfaultKind mtoken mat mfrom mtape 34).toInt) (b := 0) rfl (by decide) c22
        refine lv_iload_n hx hb dX12_readNews_43 rfl (lv_at hl 0 rfl) ?_
        refine lv_goto (tgt := 49) hx hb dX12_readNews_44 (by decide) ?_
        refine va_iast hx hb hKn.1 hP hD hS 0 0 rfl rfl (vp_in_iff.mpr ⟨by omega, by omega⟩) dX12_readNews_49 (fun H locs hP hD hS => ?_)
        have hP : va_P g.1 vwCl [(a14, .inl (g.2 0, 225, .inl (upd mfresh (z21.toNatClampNeg) (u18.1 0)))), (h0, .inr (12, [.int mthrown, .ref a1, .ref a2, .ref a3, .ref a4, .int mtaped, .ref a6, .int msize, .int (u18.1 1), .int (u18.1 2), .int (u18.1 3), .int (u18.1 4), .int (u18.1 5), .int (u18.1 6), .ref a14, .ref a15, .int mgoal, .int mgoalDays, .int mgoalHearer, .ref a19, .ref a20, .int mleastOrder, .int mwordsMany, .ref a23, .ref a24, .ref a25, .ref a26, .ref a27, .ref a28])), (a4, .inl (g.2 1, 900, .inl mtape))] H := hP
        have hD : va_D A [(a14, .inl (g.2 0, 225, .inl (upd mfresh (z21.toNatClampNeg) (u18.1 0)))), (h0, .inr (12, [.int mthrown, .ref a1, .ref a2, .ref a3, .ref a4, .int mtaped, .ref a6, .int msize, .int (u18.1 1), .int (u18.1 2), .int (u18.1 3), .int (u18.1 4), .int (u18.1 5), .int (u18.1 6), .ref a14, .ref a15, .int mgoal, .int mgoalDays, .int mgoalHearer, .ref a19, .ref a20, .int mleastOrder, .int mwordsMany, .ref a23, .ref a24, .ref a25, .ref a26, .ref a27, .ref a28])), (a4, .inl (g.2 1, 900, .inl mtape))] := hD
        have a_f23 : wok (upd mfresh (z21.toNatClampNeg) (u18.1 0)) := (wx_f i_mfresh (by omega) (by omega))
        generalize E_f23 : (upd mfresh (z21.toNatClampNeg) (u18.1 0) : Nat → Int32) = f23 at hP hD a_f23
        have g_f23_0 : (f23 0).toInt = (mfresh 0).toInt := by rw [← E_f23, uo (by have := cln (x := z21) (by omega); omega)]
        have g_f23_2 : (f23 2).toInt = (mfresh 2).toInt := by rw [← E_f23, uo (by have := cln (x := z21) (by omega); omega)]
        have g_f23_5 : (f23 5).toInt = (mfresh 5).toInt := by rw [← E_f23, uo (by have := cln (x := z21) (by omega); omega)]
        have g_f23_6 : (f23 6).toInt = (mfresh 6).toInt := by rw [← E_f23, uo (by have := cln (x := z21) (by omega); omega)]
        have g_f23_7 : (f23 7).toInt = (mfresh 7).toInt := by rw [← E_f23, uo (by have := cln (x := z21) (by omega); omega)]
        have g_f23_8 : (f23 8).toInt = (mfresh 8).toInt := by rw [← E_f23, uo (by have := cln (x := z21) (by omega); omega)]
        have g_f23_9 : (f23 9).toInt = (mfresh 9).toInt := by rw [← E_f23, uo (by have := cln (x := z21) (by omega); omega)]
        refine lv_aload_n hx hb dX12_readNews_50 rfl (lv_at hl 2 rfl) ?_
        refine g_get (C := RX12) (T := TX12) (N := 29) (ci := 12) (v := .ref a14) FC hKn hP i_X12 1 rfl rfl 14 (by decide) b_1132 rfl dX12_readNews_51 ?_
        refine lv_bipush (v := 8) hx hb dX12_readNews_54 (by decide) ?_
        refine lv_dup2_11 hx hb dX12_readNews_56 rfl rfl ?_
        refine va_iald hx hb hKn.1 hP 0 0 rfl rfl (by unfold vp_in; decide) dX12_readNews_57 ?_
        refine lv_topi (fun z24 e_z24 => ?_)
        have t_z24 : 0 ≤ z24.toInt ∧ z24.toInt ≤ 6 := by rw [e_z24]; exact wk_8 a_f23
        have q_z24 : z24.toInt = (f23 8).toInt := by rw [e_z24]; rfl
        refine lv_iconst (v := 1) hx hb dX12_readNews_58 (by decide) ?_
        refine lv_iadd hx hb dX12_readNews_59 ?_
        refine lv_topi (fun z25 e_z25 => ?_)
        have t_z25 : z25.toInt = z24.toInt + ((1 : Int32)).toInt := by rw [e_z25]; exact fb_addI (by omega) (by omega)
        refine va_iast hx hb hKn.1 hP hD hS 0 0 rfl rfl (by unfold vp_in; decide) dX12_readNews_60 (fun H locs hP hD hS => ?_)
        have hP : va_P g.1 vwCl [(a14, .inl (g.2 0, 225, .inl (upd f23 ((8 : Int32).toNatClampNeg) z25))), (h0, .inr (12, [.int mthrown, .ref a1, .ref a2, .ref a3, .ref a4, .int mtaped, .ref a6, .int msize, .int (u18.1 1), .int (u18.1 2), .int (u18.1 3), .int (u18.1 4), .int (u18.1 5), .int (u18.1 6), .ref a14, .ref a15, .int mgoal, .int mgoalDays, .int mgoalHearer, .ref a19, .ref a20, .int mleastOrder, .int mwordsMany, .ref a23, .ref a24, .ref a25, .ref a26, .ref a27, .ref a28])), (a4, .inl (g.2 1, 900, .inl mtape))] H := hP
        have hD : va_D A [(a14, .inl (g.2 0, 225, .inl (upd f23 ((8 : Int32).toNatClampNeg) z25))), (h0, .inr (12, [.int mthrown, .ref a1, .ref a2, .ref a3, .ref a4, .int mtaped, .ref a6, .int msize, .int (u18.1 1), .int (u18.1 2), .int (u18.1 3), .int (u18.1 4), .int (u18.1 5), .int (u18.1 6), .ref a14, .ref a15, .int mgoal, .int mgoalDays, .int mgoalHearer, .ref a19, .ref a20, .int mleastOrder, .int mwordsMany, .ref a23, .ref a24, .ref a25, .ref a26, .ref a27, .ref a28])), (a4, .inl (g.2 1, 900, .inl mtape))] := hD
        have a_f26 : wok (upd f23 ((8 : Int32).toNatClampNeg) z25) := (wk_uc (k := 8) a_f23 (by omega))
        generalize E_f26 : (upd f23 ((8 : Int32).toNatClampNeg) z25 : Nat → Int32) = f26 at hP hD a_f26
        have g_f26_0 : (f26 0).toInt = (f23 0).toInt := by rw [← E_f26]; exact congrArg Int32.toInt (uo (k := 8) (by decide))
        have g_f26_2 : (f26 2).toInt = (f23 2).toInt := by rw [← E_f26]; exact congrArg Int32.toInt (uo (k := 8) (by decide))
        have g_f26_5 : (f26 5).toInt = (f23 5).toInt := by rw [← E_f26]; exact congrArg Int32.toInt (uo (k := 8) (by decide))
        have g_f26_6 : (f26 6).toInt = (f23 6).toInt := by rw [← E_f26]; exact congrArg Int32.toInt (uo (k := 8) (by decide))
        have g_f26_7 : (f26 7).toInt = (f23 7).toInt := by rw [← E_f26]; exact congrArg Int32.toInt (uo (k := 8) (by decide))
        have g_f26_8 : (f26 8).toInt = z25.toInt := by rw [← E_f26]; exact congrArg Int32.toInt (pk_us (k := 8))
        have g_f26_9 : (f26 9).toInt = (f23 9).toInt := by rw [← E_f26]; exact congrArg Int32.toInt (uo (k := 8) (by decide))
        exact rt_v FX ((fun k => match k with | 0 => 0 | 1 => u18.1 1 | 2 => u18.1 2 | 3 => u18.1 3 | 4 => u18.1 4 | 5 => u18.1 5 | 6 => u18.1 6 | _ => 0), (fun k => match k with | 0 => f26 | _ => fun _ => 0), (fun _ => fun _ => 0)) rfl ⟨(show 0 ≤ (u18.1 1).toInt ∧ (u18.1 1).toInt ≤ 900 by omega), (show 0 ≤ (u18.1 2).toInt ∧ (u18.1 2).toInt ≤ 900 by omega), (show 0 ≤ (u18.1 3).toInt ∧ (u18.1 3).toInt ≤ 4 by omega), (show 0 ≤ (u18.1 4).toInt ∧ (u18.1 4).toInt ≤ 99999 by omega), (show 0 ≤ (u18.1 5).toInt ∧ (u18.1 5).toInt ≤ 3 by omega), a_f26, (show 5 * mat.toInt - mtoken.toInt ≤ 5 * (u18.1 1).toInt - (u18.1 3).toInt by omega), (show (u18.1 5).toInt = 0 → mfaultKind.toInt = 0 by omega), (show ((f26) 0).toInt = (mfresh 0).toInt ∧ ((f26) 2).toInt = (mfresh 2).toInt from (show (f26 0).toInt = (mfresh 0).toInt ∧ (f26 2).toInt = (mfresh 2).toInt by omega))⟩ (hP.sub [1, 2, 0] rfl) (hD.sub [1, 2, 0] (by decide) rfl) hS (Nat.le_of_ble_eq_true rfl) (Nat.le_of_ble_eq_true rfl) dX12_readNews_61
    · have c17 := k_eq (a := (isF mfaultKind mtoken mat mfrom mtape 34).toInt) (b := 0) rfl (by decide) c17
      exfalso; omega
set_option maxRecDepth 100000 in
set_option maxHeartbeats 4000000 in
theorem k_X12_readTells (l : Launch) (g : GG) (h0 : Nat) (a1 : Nat) (a2 : Nat) (a3 : Nat) (a4 : Nat) (a6 : Nat) (a14 : Nat) (a15 : Nat) (a19 : Nat) (a20 : Nat) (a23 : Nat) (a24 : Nat) (a25 : Nat) (a26 : Nat) (a27 : Nat) (a28 : Nat) (mthrown : Int32) (mtaped : Int32) (msize : Int32) (mat : Int32) (mfrom : Int32) (mtoken : Int32) (mvalue : Int32) (mfaultKind : Int32) (mfaultPlace : Int32) (mgoal : Int32) (mgoalDays : Int32) (mgoalHearer : Int32) (mleastOrder : Int32) (mwordsMany : Int32) (mtape : Nat → Int32) (mfresh : Nat → Int32) (i_mtaped : 0 ≤ mtaped.toInt ∧ mtaped.toInt ≤ 900) (i_msize : 0 ≤ msize.toInt ∧ msize.toInt ≤ 900) (i_mat : 0 ≤ mat.toInt ∧ mat.toInt ≤ 900) (i_mfrom : 0 ≤ mfrom.toInt ∧ mfrom.toInt ≤ 900) (i_mtoken : 0 ≤ mtoken.toInt ∧ mtoken.toInt ≤ 4) (i_mvalue : 0 ≤ mvalue.toInt ∧ mvalue.toInt ≤ 99999) (i_mfaultKind : 0 ≤ mfaultKind.toInt ∧ mfaultKind.toInt ≤ 3) (i_mgoalHearer : 0 ≤ mgoalHearer.toInt ∧ mgoalHearer.toInt ≤ 3) (i_mwordsMany : 0 ≤ mwordsMany.toInt ∧ mwordsMany.toInt ≤ 10) (i_mfresh : wok mfresh) : Ct l g yX12_readTells cX12_readTells 3 none { frames := 3, cells := 0, slots := 0, locals := 69 } [.ref h0] [(h0, .inr (12, [.int mthrown, .ref a1, .ref a2, .ref a3, .ref a4, .int mtaped, .ref a6, .int msize, .int mat, .int mfrom, .int mtoken, .int mvalue, .int mfaultKind, .int mfaultPlace, .ref a14, .ref a15, .int mgoal, .int mgoalDays, .int mgoalHearer, .ref a19, .ref a20, .int mleastOrder, .int mwordsMany, .ref a23, .ref a24, .ref a25, .ref a26, .ref a27, .ref a28])), (a4, .inl (g.2 1, 900, .inl mtape)), (a14, .inl (g.2 0, 225, .inl mfresh))] (S := (Nat → Int32) × (Nat → Nat → Int32) × (Nat → Nat → Int64)) (fun _ => none) (fun u => (0 ≤ (u.1 1).toInt ∧ (u.1 1).toInt ≤ 900) ∧ (0 ≤ (u.1 2).toInt ∧ (u.1 2).toInt ≤ 900) ∧ (0 ≤ (u.1 3).toInt ∧ (u.1 3).toInt ≤ 4) ∧ (0 ≤ (u.1 4).toInt ∧ (u.1 4).toInt ≤ 99999) ∧ (0 ≤ (u.1 5).toInt ∧ (u.1 5).toInt ≤ 3) ∧ (wok (u.2.1 0)) ∧ (5 * mat.toInt - mtoken.toInt ≤ 5 * (u.1 1).toInt - (u.1 3).toInt) ∧ ((u.1 5).toInt = 0 → mfaultKind.toInt = 0) ∧ (((u.2.1 0) 0).toInt = (mfresh 0).toInt ∧ ((u.2.1 0) 2).toInt = (mfresh 2).toInt)) (fun u => [(h0, .inr (12, [.int mthrown, .ref a1, .ref a2, .ref a3, .ref a4, .int mtaped, .ref a6, .int msize, .int (u.1 1), .int (u.1 2), .int (u.1 3), .int (u.1 4), .int (u.1 5), .int (u.1 6), .ref a14, .ref a15, .int mgoal, .int mgoalDays, .int mgoalHearer, .ref a19, .ref a20, .int mleastOrder, .int mwordsMany, .ref a23, .ref a24, .ref a25, .ref a26, .ref a27, .ref a28])), (a4, .inl (g.2 1, 900, .inl mtape)), (a14, .inl (g.2 0, 225, .inl (u.2.1 0)))]) := by
  refine Ct.of (by decide) (Nat.le_of_ble_eq_true rfl) ?_
  intro p e s m below meth c A ls FX hP hD hS hl
  obtain ⟨FC, hr, hlk, hKn, hA, hnm, hZ⟩ := id FX
  have FC : CallFix p m c cX12_readTells 3 s _ BIG RX12 := FC
  obtain ⟨hx, hb, hml, hown, hB⟩ := id FC
  have hl : lv_has ls 3 [(0, .ref h0)] := hl
  refine lv_aload_n hx hb dX12_readTells_0 rfl (lv_at hl 0 rfl) ?_
  refine lv_iconst (v := 0) hx hb dX12_readTells_1 (by decide) ?_
  refine lv_aload_n hx hb dX12_readTells_2 rfl (lv_at hl 0 rfl) ?_
  refine g_get (C := RX12) (T := TX12) (N := 29) (ci := 12) (v := .ref a14) FC hKn hP i_X12 0 rfl rfl 14 (by decide) b_1132 rfl dX12_readTells_3 ?_
  refine lv_iconst (v := 5) hx hb dX12_readTells_6 (by decide) ?_
  refine va_iald hx hb hKn.1 hP 2 0 rfl rfl (by unfold vp_in; decide) dX12_readTells_7 ?_
  have kc5 : (5 : Int32).toInt = 5 := by decide
  refine lv_topi (fun z1 e_z1 => ?_)
  have t_z1 : 0 ≤ z1.toInt ∧ z1.toInt ≤ 4 := by rw [e_z1]; exact wk_5 i_mfresh
  have q_z1 : z1.toInt = (mfresh 5).toInt := by rw [e_z1]; rfl
  refine lv_iconst (v := 1) hx hb dX12_readTells_8 (by decide) ?_
  refine lv_isub hx hb dX12_readTells_9 ?_
  have kc1 : (1 : Int32).toInt = 1 := by decide
  refine lv_topi (fun z2 e_z2 => ?_)
  have t_z2 : z2.toInt = z1.toInt - ((1 : Int32)).toInt := by rw [e_z2]; exact fb_subI (by omega) (by omega)
  have kc0 : (0 : Int32).toInt = 0 := by decide
  refine call_V (As := [.int 0, .int z2]) (rest := []) (wr := [(a14, .inl (g.2 0, 225, .inl mfresh))]) FC hKn hZ (k_X12_number l g h0 a1 a2 a3 a4 a6 a14 a15 a19 a20 a23 a24 a25 a26 a27 a28 mthrown mtaped msize mat mfrom mtoken mvalue mfaultKind mfaultPlace mgoal mgoalDays mgoalHearer mleastOrder mwordsMany mtape ((0 : Int32)) z2 (by omega) (by omega) (by omega) (by omega) (by omega) (by omega) (by omega) (by omega) (by omega)) m_yX12_number b_1131 (ci := 12) rfl rfl rfl hP hD hS hA [0, 1] [2] rfl (by decide) rfl (by decide) (by decide) rfl hl.1 rfl (Nat.le_of_ble_eq_true rfl) dX12_readTells_10 ⟨(Nat.le_of_ble_eq_true rfl), (Nat.le_of_ble_eq_true rfl)⟩ ⟨(Nat.le_of_ble_eq_true rfl), (Nat.le_of_ble_eq_true rfl)⟩ (fun u3 H locs q4 hP hD hS => ?_)
  obtain ⟨q4_0, q4_1, q4_2, q4_3, q4_4, q4_5, q4_6, q4_7, q4_8, q4_9⟩ := q4
  have hP : va_P g.1 vwCl [(a14, .inl (g.2 0, 225, .inl mfresh)), (h0, .inr (12, [.int mthrown, .ref a1, .ref a2, .ref a3, .ref a4, .int mtaped, .ref a6, .int msize, .int (u3.1 1), .int (u3.1 2), .int (u3.1 3), .int (u3.1 4), .int (u3.1 5), .int (u3.1 6), .ref a14, .ref a15, .int mgoal, .int mgoalDays, .int mgoalHearer, .ref a19, .ref a20, .int mleastOrder, .int mwordsMany, .ref a23, .ref a24, .ref a25, .ref a26, .ref a27, .ref a28])), (a4, .inl (g.2 1, 900, .inl mtape))] H := hP
  have hD : va_D A [(a14, .inl (g.2 0, 225, .inl mfresh)), (h0, .inr (12, [.int mthrown, .ref a1, .ref a2, .ref a3, .ref a4, .int mtaped, .ref a6, .int msize, .int (u3.1 1), .int (u3.1 2), .int (u3.1 3), .int (u3.1 4), .int (u3.1 5), .int (u3.1 6), .ref a14, .ref a15, .int mgoal, .int mgoalDays, .int mgoalHearer, .ref a19, .ref a20, .int mleastOrder, .int mwordsMany, .ref a23, .ref a24, .ref a25, .ref a26, .ref a27, .ref a28])), (a4, .inl (g.2 1, 900, .inl mtape))] := hD
  refine W.eq (g2 := F0 m 13 ls [.int (u3.1 0)]) rfl ?_
  refine lv_istore_n (lv' := [(1, .int (u3.1 0)), (0, .ref h0)]) hx hb dX12_readTells_13 rfl hl (by decide) rfl (fun ls hl => ?_)
  refine lv_aload_n hx hb dX12_readTells_14 rfl (lv_at hl 1 rfl) ?_
  refine call_V (As := []) (rest := []) (wr := [(a14, .inl (g.2 0, 225, .inl mfresh)), (a4, .inl (g.2 1, 900, .inl mtape))]) FC hKn hZ (k_X12_good l g h0 a1 a2 a3 a4 a6 a14 a15 a19 a20 a23 a24 a25 a26 a27 a28 mthrown mtaped msize (u3.1 1) (u3.1 2) (u3.1 3) (u3.1 4) (u3.1 5) (u3.1 6) mgoal mgoalDays mgoalHearer mleastOrder mwordsMany (by omega) (by omega) (by omega) (by omega) (by omega) (by omega) (by omega) (by omega) (by omega)) m_yX12_good b_1117 (ci := 12) rfl rfl rfl hP hD hS hA [1] [0, 2] rfl (by decide) rfl (by decide) (by decide) rfl hl.1 rfl (Nat.le_of_ble_eq_true rfl) dX12_readTells_15 ⟨(Nat.le_of_ble_eq_true rfl), (Nat.le_of_ble_eq_true rfl)⟩ ⟨(Nat.le_of_ble_eq_true rfl), (Nat.le_of_ble_eq_true rfl)⟩ (fun u5 H locs q6 hP hD hS => ?_)
  obtain ⟨q6_0, q6_1⟩ := q6
  have hP : va_P g.1 vwCl [(a14, .inl (g.2 0, 225, .inl mfresh)), (a4, .inl (g.2 1, 900, .inl mtape)), (h0, .inr (12, [.int mthrown, .ref a1, .ref a2, .ref a3, .ref a4, .int mtaped, .ref a6, .int msize, .int (u3.1 1), .int (u3.1 2), .int (u3.1 3), .int (u3.1 4), .int (u3.1 5), .int (u3.1 6), .ref a14, .ref a15, .int mgoal, .int mgoalDays, .int mgoalHearer, .ref a19, .ref a20, .int mleastOrder, .int mwordsMany, .ref a23, .ref a24, .ref a25, .ref a26, .ref a27, .ref a28]))] H := hP
  have hD : va_D A [(a14, .inl (g.2 0, 225, .inl mfresh)), (a4, .inl (g.2 1, 900, .inl mtape)), (h0, .inr (12, [.int mthrown, .ref a1, .ref a2, .ref a3, .ref a4, .int mtaped, .ref a6, .int msize, .int (u3.1 1), .int (u3.1 2), .int (u3.1 3), .int (u3.1 4), .int (u3.1 5), .int (u3.1 6), .ref a14, .ref a15, .int mgoal, .int mgoalDays, .int mgoalHearer, .ref a19, .ref a20, .int mleastOrder, .int mwordsMany, .ref a23, .ref a24, .ref a25, .ref a26, .ref a27, .ref a28]))] := hD
  refine W.eq (g2 := F0 m 18 ls [.int (u5.1 0)]) rfl ?_
  rcases (show (u3.1 5).toInt = 0 ∨ (u3.1 5).toInt ≠ 0 by omega) with c7 | c7
  · skip
    refine tp_i (v := 1) (Int32.toInt_inj.mp (show (u5.1 0).toInt = (1 : Int32).toInt by rw [show (1 : Int32).toInt = 1 by decide]; omega)) ?_
    refine lv_if_eq (tgt := 42) hx hb dX12_readTells_18 (by decide) (fun h => absurd h (by decide)) (fun _ => ?_)
    refine lv_aload_n hx hb dX12_readTells_21 rfl (lv_at hl 1 rfl) ?_
    refine g_get (C := RX12) (T := TX12) (N := 29) (ci := 12) (v := .int (u3.1 3)) FC hKn hP i_X12 2 rfl rfl 10 (by decide) b_1114 rfl dX12_readTells_22 ?_
    refine lv_iconst (v := 2) hx hb dX12_readTells_25 (by decide) ?_
    refine lv_icmp_ne (tgt := 42) hx hb dX12_readTells_26 (by decide) (fun c8 => ?_) (fun c8 => ?_)
    · have c8 := k_ne (a := (u3.1 3).toInt) (b := 2) rfl (by decide) c8
      refine lv_aload_n hx hb dX12_readTells_42 rfl (lv_at hl 1 rfl) ?_
      refine lv_iconst (v := 0) hx hb dX12_readTells_43 (by decide) ?_
      refine lv_aload_n hx hb dX12_readTells_44 rfl (lv_at hl 1 rfl) ?_
      refine g_get (C := RX12) (T := TX12) (N := 29) (ci := 12) (v := .ref a14) FC hKn hP i_X12 2 rfl rfl 14 (by decide) b_1132 rfl dX12_readTells_45 ?_
      refine lv_iconst (v := 5) hx hb dX12_readTells_48 (by decide) ?_
      refine va_iald hx hb hKn.1 hP 0 0 rfl rfl (by unfold vp_in; decide) dX12_readTells_49 ?_
      refine tp_i (v := z1) e_z1.symm ?_
      refine lv_iconst (v := 1) hx hb dX12_readTells_50 (by decide) ?_
      refine lv_isub hx hb dX12_readTells_51 ?_
      refine lv_topi (fun z9 e_z9 => ?_)
      have t_z9 : z9.toInt = z1.toInt - ((1 : Int32)).toInt := by rw [e_z9]; exact fb_subI (by omega) (by omega)
      refine call_V (As := [.int 0, .int z9]) (rest := []) (wr := [(a14, .inl (g.2 0, 225, .inl mfresh))]) FC hKn hZ (k_X12_number l g h0 a1 a2 a3 a4 a6 a14 a15 a19 a20 a23 a24 a25 a26 a27 a28 mthrown mtaped msize (u3.1 1) (u3.1 2) (u3.1 3) (u3.1 4) (u3.1 5) (u3.1 6) mgoal mgoalDays mgoalHearer mleastOrder mwordsMany mtape ((0 : Int32)) z9 (by omega) (by omega) (by omega) (by omega) (by omega) (by omega) (by omega) (by omega) (by omega)) m_yX12_number b_1131 (ci := 12) rfl rfl rfl hP hD hS hA [2, 1] [0] rfl (by decide) rfl (by decide) (by decide) rfl hl.1 rfl (Nat.le_of_ble_eq_true rfl) dX12_readTells_52 ⟨(Nat.le_of_ble_eq_true rfl), (Nat.le_of_ble_eq_true rfl)⟩ ⟨(Nat.le_of_ble_eq_true rfl), (Nat.le_of_ble_eq_true rfl)⟩ (fun u10 H locs q11 hP hD hS => ?_)
      obtain ⟨q11_0, q11_1, q11_2, q11_3, q11_4, q11_5, q11_6, q11_7, q11_8, q11_9⟩ := q11
      have hP : va_P g.1 vwCl [(a14, .inl (g.2 0, 225, .inl mfresh)), (h0, .inr (12, [.int mthrown, .ref a1, .ref a2, .ref a3, .ref a4, .int mtaped, .ref a6, .int msize, .int (u10.1 1), .int (u10.1 2), .int (u10.1 3), .int (u10.1 4), .int (u10.1 5), .int (u10.1 6), .ref a14, .ref a15, .int mgoal, .int mgoalDays, .int mgoalHearer, .ref a19, .ref a20, .int mleastOrder, .int mwordsMany, .ref a23, .ref a24, .ref a25, .ref a26, .ref a27, .ref a28])), (a4, .inl (g.2 1, 900, .inl mtape))] H := hP
      have hD : va_D A [(a14, .inl (g.2 0, 225, .inl mfresh)), (h0, .inr (12, [.int mthrown, .ref a1, .ref a2, .ref a3, .ref a4, .int mtaped, .ref a6, .int msize, .int (u10.1 1), .int (u10.1 2), .int (u10.1 3), .int (u10.1 4), .int (u10.1 5), .int (u10.1 6), .ref a14, .ref a15, .int mgoal, .int mgoalDays, .int mgoalHearer, .ref a19, .ref a20, .int mleastOrder, .int mwordsMany, .ref a23, .ref a24, .ref a25, .ref a26, .ref a27, .ref a28])), (a4, .inl (g.2 1, 900, .inl mtape))] := hD
      refine W.eq (g2 := F0 m 55 ls [.int (u10.1 0)]) rfl ?_
      refine lv_istore_n (lv' := [(2, .int (u10.1 0)), (1, .int (u3.1 0)), (0, .ref h0)]) hx hb dX12_readTells_55 rfl hl (by decide) rfl (fun ls hl => ?_)
      refine lv_aload_n hx hb dX12_readTells_56 rfl (lv_at hl 2 rfl) ?_
      refine call_V (As := []) (rest := []) (wr := [(a14, .inl (g.2 0, 225, .inl mfresh)), (a4, .inl (g.2 1, 900, .inl mtape))]) FC hKn hZ (k_X12_good l g h0 a1 a2 a3 a4 a6 a14 a15 a19 a20 a23 a24 a25 a26 a27 a28 mthrown mtaped msize (u10.1 1) (u10.1 2) (u10.1 3) (u10.1 4) (u10.1 5) (u10.1 6) mgoal mgoalDays mgoalHearer mleastOrder mwordsMany (by omega) (by omega) (by omega) (by omega) (by omega) (by omega) (by omega) (by omega) (by omega)) m_yX12_good b_1117 (ci := 12) rfl rfl rfl hP hD hS hA [1] [0, 2] rfl (by decide) rfl (by decide) (by decide) rfl hl.1 rfl (Nat.le_of_ble_eq_true rfl) dX12_readTells_57 ⟨(Nat.le_of_ble_eq_true rfl), (Nat.le_of_ble_eq_true rfl)⟩ ⟨(Nat.le_of_ble_eq_true rfl), (Nat.le_of_ble_eq_true rfl)⟩ (fun u12 H locs q13 hP hD hS => ?_)
      obtain ⟨q13_0, q13_1⟩ := q13
      have hP : va_P g.1 vwCl [(a14, .inl (g.2 0, 225, .inl mfresh)), (a4, .inl (g.2 1, 900, .inl mtape)), (h0, .inr (12, [.int mthrown, .ref a1, .ref a2, .ref a3, .ref a4, .int mtaped, .ref a6, .int msize, .int (u10.1 1), .int (u10.1 2), .int (u10.1 3), .int (u10.1 4), .int (u10.1 5), .int (u10.1 6), .ref a14, .ref a15, .int mgoal, .int mgoalDays, .int mgoalHearer, .ref a19, .ref a20, .int mleastOrder, .int mwordsMany, .ref a23, .ref a24, .ref a25, .ref a26, .ref a27, .ref a28]))] H := hP
      have hD : va_D A [(a14, .inl (g.2 0, 225, .inl mfresh)), (a4, .inl (g.2 1, 900, .inl mtape)), (h0, .inr (12, [.int mthrown, .ref a1, .ref a2, .ref a3, .ref a4, .int mtaped, .ref a6, .int msize, .int (u10.1 1), .int (u10.1 2), .int (u10.1 3), .int (u10.1 4), .int (u10.1 5), .int (u10.1 6), .ref a14, .ref a15, .int mgoal, .int mgoalDays, .int mgoalHearer, .ref a19, .ref a20, .int mleastOrder, .int mwordsMany, .ref a23, .ref a24, .ref a25, .ref a26, .ref a27, .ref a28]))] := hD
      refine W.eq (g2 := F0 m 60 ls [.int (u12.1 0)]) rfl ?_
      rcases (show (u10.1 5).toInt = 0 ∨ (u10.1 5).toInt ≠ 0 by omega) with c14 | c14
      · skip
        refine tp_i (v := 1) (Int32.toInt_inj.mp (show (u12.1 0).toInt = (1 : Int32).toInt by rw [show (1 : Int32).toInt = 1 by decide]; omega)) ?_
        refine lv_if_eq (tgt := 78) hx hb dX12_readTells_60 (by decide) (fun h => absurd h (by decide)) (fun _ => ?_)
        refine lv_aload_n hx hb dX12_readTells_63 rfl (lv_at hl 2 rfl) ?_
        refine g_get (C := RX12) (T := TX12) (N := 29) (ci := 12) (v := .ref a14) FC hKn hP i_X12 2 rfl rfl 14 (by decide) b_1132 rfl dX12_readTells_64 ?_
        refine lv_bipush (v := 101) hx hb dX12_readTells_67 (by decide) ?_
        refine lv_iload_n hx hb dX12_readTells_69 rfl (lv_at hl 1 rfl) ?_
        refine lv_iadd hx hb dX12_readTells_70 ?_
        refine lv_topi (fun z15 e_z15 => ?_)
        refine lv_dup2_11 hx hb dX12_readTells_71 rfl rfl ?_
        refine va_iald hx hb hKn.1 hP 0 0 rfl rfl (vp_in_iff.mpr ⟨by omega, by omega⟩) dX12_readTells_72 ?_
        refine lv_topi (fun z16 e_z16 => ?_)
        have q_z16 : z16.toInt = (mfresh z15.toNatClampNeg).toInt := by rw [e_z16]
        refine lv_iconst (v := 1) hx hb dX12_readTells_73 (by decide) ?_
        refine lv_iload_n hx hb dX12_readTells_74 rfl (lv_at hl 0 rfl) ?_
        refine lv_ishl hx hb dX12_readTells_75 ?_
        refine lv_topi (fun z17 e_z17 => ?_)
        refine lv_ior hx hb dX12_readTells_76 ?_
        refine lv_topi (fun z18 e_z18 => ?_)
        refine va_iast hx hb hKn.1 hP hD hS 0 0 rfl rfl (vp_in_iff.mpr ⟨by omega, by omega⟩) dX12_readTells_77 (fun H locs hP hD hS => ?_)
        have hP : va_P g.1 vwCl [(a14, .inl (g.2 0, 225, .inl (upd mfresh (z15.toNatClampNeg) z18))), (a4, .inl (g.2 1, 900, .inl mtape)), (h0, .inr (12, [.int mthrown, .ref a1, .ref a2, .ref a3, .ref a4, .int mtaped, .ref a6, .int msize, .int (u10.1 1), .int (u10.1 2), .int (u10.1 3), .int (u10.1 4), .int (u10.1 5), .int (u10.1 6), .ref a14, .ref a15, .int mgoal, .int mgoalDays, .int mgoalHearer, .ref a19, .ref a20, .int mleastOrder, .int mwordsMany, .ref a23, .ref a24, .ref a25, .ref a26, .ref a27, .ref a28]))] H := hP
        have hD : va_D A [(a14, .inl (g.2 0, 225, .inl (upd mfresh (z15.toNatClampNeg) z18))), (a4, .inl (g.2 1, 900, .inl mtape)), (h0, .inr (12, [.int mthrown, .ref a1, .ref a2, .ref a3, .ref a4, .int mtaped, .ref a6, .int msize, .int (u10.1 1), .int (u10.1 2), .int (u10.1 3), .int (u10.1 4), .int (u10.1 5), .int (u10.1 6), .ref a14, .ref a15, .int mgoal, .int mgoalDays, .int mgoalHearer, .ref a19, .ref a20, .int mleastOrder, .int mwordsMany, .ref a23, .ref a24, .ref a25, .ref a26, .ref a27, .ref a28]))] := hD
        have a_f19 : wok (upd mfresh (z15.toNatClampNeg) z18) := (wx_f i_mfresh (by omega) (by omega))
        generalize E_f19 : (upd mfresh (z15.toNatClampNeg) z18 : Nat → Int32) = f19 at hP hD a_f19
        have g_f19_0 : (f19 0).toInt = (mfresh 0).toInt := by rw [← E_f19, uo (by have := cln (x := z15) (by omega); omega)]
        have g_f19_2 : (f19 2).toInt = (mfresh 2).toInt := by rw [← E_f19, uo (by have := cln (x := z15) (by omega); omega)]
        have g_f19_5 : (f19 5).toInt = (mfresh 5).toInt := by rw [← E_f19, uo (by have := cln (x := z15) (by omega); omega)]
        have g_f19_6 : (f19 6).toInt = (mfresh 6).toInt := by rw [← E_f19, uo (by have := cln (x := z15) (by omega); omega)]
        have g_f19_7 : (f19 7).toInt = (mfresh 7).toInt := by rw [← E_f19, uo (by have := cln (x := z15) (by omega); omega)]
        have g_f19_8 : (f19 8).toInt = (mfresh 8).toInt := by rw [← E_f19, uo (by have := cln (x := z15) (by omega); omega)]
        have g_f19_9 : (f19 9).toInt = (mfresh 9).toInt := by rw [← E_f19, uo (by have := cln (x := z15) (by omega); omega)]
        exact rt_v FX ((fun k => match k with | 0 => 0 | 1 => u10.1 1 | 2 => u10.1 2 | 3 => u10.1 3 | 4 => u10.1 4 | 5 => u10.1 5 | 6 => u10.1 6 | _ => 0), (fun k => match k with | 0 => f19 | _ => fun _ => 0), (fun _ => fun _ => 0)) rfl ⟨(show 0 ≤ (u10.1 1).toInt ∧ (u10.1 1).toInt ≤ 900 by omega), (show 0 ≤ (u10.1 2).toInt ∧ (u10.1 2).toInt ≤ 900 by omega), (show 0 ≤ (u10.1 3).toInt ∧ (u10.1 3).toInt ≤ 4 by omega), (show 0 ≤ (u10.1 4).toInt ∧ (u10.1 4).toInt ≤ 99999 by omega), (show 0 ≤ (u10.1 5).toInt ∧ (u10.1 5).toInt ≤ 3 by omega), a_f19, (show 5 * mat.toInt - mtoken.toInt ≤ 5 * (u10.1 1).toInt - (u10.1 3).toInt by omega), (show (u10.1 5).toInt = 0 → mfaultKind.toInt = 0 by omega), (show ((f19) 0).toInt = (mfresh 0).toInt ∧ ((f19) 2).toInt = (mfresh 2).toInt from (show (f19 0).toInt = (mfresh 0).toInt ∧ (f19 2).toInt = (mfresh 2).toInt by omega))⟩ (hP.sub [2, 1, 0] rfl) (hD.sub [2, 1, 0] (by decide) rfl) hS (Nat.le_of_ble_eq_true rfl) (Nat.le_of_ble_eq_true rfl) dX12_readTells_78
      · skip
        refine tp_i (v := 0) (Int32.toInt_inj.mp (show (u12.1 0).toInt = (0 : Int32).toInt by rw [show (0 : Int32).toInt = 0 by decide]; omega)) ?_
        refine lv_if_eq (tgt := 78) hx hb dX12_readTells_60 (by decide) (fun _ => ?_) (fun h => absurd h (by decide))
        exact rt_v FX ((fun k => match k with | 0 => 0 | 1 => u10.1 1 | 2 => u10.1 2 | 3 => u10.1 3 | 4 => u10.1 4 | 5 => u10.1 5 | 6 => u10.1 6 | _ => 0), (fun k => match k with | 0 => mfresh | _ => fun _ => 0), (fun _ => fun _ => 0)) rfl ⟨(show 0 ≤ (u10.1 1).toInt ∧ (u10.1 1).toInt ≤ 900 by omega), (show 0 ≤ (u10.1 2).toInt ∧ (u10.1 2).toInt ≤ 900 by omega), (show 0 ≤ (u10.1 3).toInt ∧ (u10.1 3).toInt ≤ 4 by omega), (show 0 ≤ (u10.1 4).toInt ∧ (u10.1 4).toInt ≤ 99999 by omega), (show 0 ≤ (u10.1 5).toInt ∧ (u10.1 5).toInt ≤ 3 by omega), i_mfresh, (show 5 * mat.toInt - mtoken.toInt ≤ 5 * (u10.1 1).toInt - (u10.1 3).toInt by omega), (show (u10.1 5).toInt = 0 → mfaultKind.toInt = 0 by omega), (show ((mfresh) 0).toInt = (mfresh 0).toInt ∧ ((mfresh) 2).toInt = (mfresh 2).toInt from (show (mfresh 0).toInt = (mfresh 0).toInt ∧ (mfresh 2).toInt = (mfresh 2).toInt by omega))⟩ (hP.sub [2, 1, 0] rfl) (hD.sub [2, 1, 0] (by decide) rfl) hS (Nat.le_of_ble_eq_true rfl) (Nat.le_of_ble_eq_true rfl) dX12_readTells_78
    · have c8 := k_eq (a := (u3.1 3).toInt) (b := 2) rfl (by decide) c8
      refine lv_aload_n hx hb dX12_readTells_29 rfl (lv_at hl 1 rfl) ?_
      refine g_get (C := RX12) (T := TX12) (N := 29) (ci := 12) (v := .int (u3.1 4)) FC hKn hP i_X12 2 rfl rfl 11 (by decide) b_1115 rfl dX12_readTells_30 ?_
      refine lv_iload_n hx hb dX12_readTells_33 rfl (lv_at hl 0 rfl) ?_
      refine lv_icmp_ne (tgt := 42) hx hb dX12_readTells_34 (by decide) (fun c20 => ?_) (fun c20 => ?_)
      · have c20 := k_ne (a := (u3.1 4).toInt) (b := (u3.1 0).toInt) rfl rfl c20
        refine lv_aload_n hx hb dX12_readTells_42 rfl (lv_at hl 1 rfl) ?_
        refine lv_iconst (v := 0) hx hb dX12_readTells_43 (by decide) ?_
        refine lv_aload_n hx hb dX12_readTells_44 rfl (lv_at hl 1 rfl) ?_
        refine g_get (C := RX12) (T := TX12) (N := 29) (ci := 12) (v := .ref a14) FC hKn hP i_X12 2 rfl rfl 14 (by decide) b_1132 rfl dX12_readTells_45 ?_
        refine lv_iconst (v := 5) hx hb dX12_readTells_48 (by decide) ?_
        refine va_iald hx hb hKn.1 hP 0 0 rfl rfl (by unfold vp_in; decide) dX12_readTells_49 ?_
        refine tp_i (v := z1) e_z1.symm ?_
        refine lv_iconst (v := 1) hx hb dX12_readTells_50 (by decide) ?_
        refine lv_isub hx hb dX12_readTells_51 ?_
        refine lv_topi (fun z21 e_z21 => ?_)
        have t_z21 : z21.toInt = z1.toInt - ((1 : Int32)).toInt := by rw [e_z21]; exact fb_subI (by omega) (by omega)
        refine call_V (As := [.int 0, .int z21]) (rest := []) (wr := [(a14, .inl (g.2 0, 225, .inl mfresh))]) FC hKn hZ (k_X12_number l g h0 a1 a2 a3 a4 a6 a14 a15 a19 a20 a23 a24 a25 a26 a27 a28 mthrown mtaped msize (u3.1 1) (u3.1 2) (u3.1 3) (u3.1 4) (u3.1 5) (u3.1 6) mgoal mgoalDays mgoalHearer mleastOrder mwordsMany mtape ((0 : Int32)) z21 (by omega) (by omega) (by omega) (by omega) (by omega) (by omega) (by omega) (by omega) (by omega)) m_yX12_number b_1131 (ci := 12) rfl rfl rfl hP hD hS hA [2, 1] [0] rfl (by decide) rfl (by decide) (by decide) rfl hl.1 rfl (Nat.le_of_ble_eq_true rfl) dX12_readTells_52 ⟨(Nat.le_of_ble_eq_true rfl), (Nat.le_of_ble_eq_true rfl)⟩ ⟨(Nat.le_of_ble_eq_true rfl), (Nat.le_of_ble_eq_true rfl)⟩ (fun u22 H locs q23 hP hD hS => ?_)
        obtain ⟨q23_0, q23_1, q23_2, q23_3, q23_4, q23_5, q23_6, q23_7, q23_8, q23_9⟩ := q23
        have hP : va_P g.1 vwCl [(a14, .inl (g.2 0, 225, .inl mfresh)), (h0, .inr (12, [.int mthrown, .ref a1, .ref a2, .ref a3, .ref a4, .int mtaped, .ref a6, .int msize, .int (u22.1 1), .int (u22.1 2), .int (u22.1 3), .int (u22.1 4), .int (u22.1 5), .int (u22.1 6), .ref a14, .ref a15, .int mgoal, .int mgoalDays, .int mgoalHearer, .ref a19, .ref a20, .int mleastOrder, .int mwordsMany, .ref a23, .ref a24, .ref a25, .ref a26, .ref a27, .ref a28])), (a4, .inl (g.2 1, 900, .inl mtape))] H := hP
        have hD : va_D A [(a14, .inl (g.2 0, 225, .inl mfresh)), (h0, .inr (12, [.int mthrown, .ref a1, .ref a2, .ref a3, .ref a4, .int mtaped, .ref a6, .int msize, .int (u22.1 1), .int (u22.1 2), .int (u22.1 3), .int (u22.1 4), .int (u22.1 5), .int (u22.1 6), .ref a14, .ref a15, .int mgoal, .int mgoalDays, .int mgoalHearer, .ref a19, .ref a20, .int mleastOrder, .int mwordsMany, .ref a23, .ref a24, .ref a25, .ref a26, .ref a27, .ref a28])), (a4, .inl (g.2 1, 900, .inl mtape))] := hD
        refine W.eq (g2 := F0 m 55 ls [.int (u22.1 0)]) rfl ?_
        refine lv_istore_n (lv' := [(2, .int (u22.1 0)), (1, .int (u3.1 0)), (0, .ref h0)]) hx hb dX12_readTells_55 rfl hl (by decide) rfl (fun ls hl => ?_)
        refine lv_aload_n hx hb dX12_readTells_56 rfl (lv_at hl 2 rfl) ?_
        refine call_V (As := []) (rest := []) (wr := [(a14, .inl (g.2 0, 225, .inl mfresh)), (a4, .inl (g.2 1, 900, .inl mtape))]) FC hKn hZ (k_X12_good l g h0 a1 a2 a3 a4 a6 a14 a15 a19 a20 a23 a24 a25 a26 a27 a28 mthrown mtaped msize (u22.1 1) (u22.1 2) (u22.1 3) (u22.1 4) (u22.1 5) (u22.1 6) mgoal mgoalDays mgoalHearer mleastOrder mwordsMany (by omega) (by omega) (by omega) (by omega) (by omega) (by omega) (by omega) (by omega) (by omega)) m_yX12_good b_1117 (ci := 12) rfl rfl rfl hP hD hS hA [1] [0, 2] rfl (by decide) rfl (by decide) (by decide) rfl hl.1 rfl (Nat.le_of_ble_eq_true rfl) dX12_readTells_57 ⟨(Nat.le_of_ble_eq_true rfl), (Nat.le_of_ble_eq_true rfl)⟩ ⟨(Nat.le_of_ble_eq_true rfl), (Nat.le_of_ble_eq_true rfl)⟩ (fun u24 H locs q25 hP hD hS => ?_)
        obtain ⟨q25_0, q25_1⟩ := q25
        have hP : va_P g.1 vwCl [(a14, .inl (g.2 0, 225, .inl mfresh)), (a4, .inl (g.2 1, 900, .inl mtape)), (h0, .inr (12, [.int mthrown, .ref a1, .ref a2, .ref a3, .ref a4, .int mtaped, .ref a6, .int msize, .int (u22.1 1), .int (u22.1 2), .int (u22.1 3), .int (u22.1 4), .int (u22.1 5), .int (u22.1 6), .ref a14, .ref a15, .int mgoal, .int mgoalDays, .int mgoalHearer, .ref a19, .ref a20, .int mleastOrder, .int mwordsMany, .ref a23, .ref a24, .ref a25, .ref a26, .ref a27, .ref a28]))] H := hP
        have hD : va_D A [(a14, .inl (g.2 0, 225, .inl mfresh)), (a4, .inl (g.2 1, 900, .inl mtape)), (h0, .inr (12, [.int mthrown, .ref a1, .ref a2, .ref a3, .ref a4, .int mtaped, .ref a6, .int msize, .int (u22.1 1), .int (u22.1 2), .int (u22.1 3), .int (u22.1 4), .int (u22.1 5), .int (u22.1 6), .ref a14, .ref a15, .int mgoal, .int mgoalDays, .int mgoalHearer, .ref a19, .ref a20, .int mleastOrder, .int mwordsMany, .ref a23, .ref a24, .ref a25, .ref a26, .ref a27, .ref a28]))] := hD
        refine W.eq (g2 := F0 m 60 ls [.int (u24.1 0)]) rfl ?_
        rcases (show (u22.1 5).toInt = 0 ∨ (u22.1 5).toInt ≠ 0 by omega) with c26 | c26
        · skip
          refine tp_i (v := 1) (Int32.toInt_inj.mp (show (u24.1 0).toInt = (1 : Int32).toInt by rw [show (1 : Int32).toInt = 1 by decide]; omega)) ?_
          refine lv_if_eq (tgt := 78) hx hb dX12_readTells_60 (by decide) (fun h => absurd h (by decide)) (fun _ => ?_)
          refine lv_aload_n hx hb dX12_readTells_63 rfl (lv_at hl 2 rfl) ?_
          refine g_get (C := RX12) (T := TX12) (N := 29) (ci := 12) (v := .ref a14) FC hKn hP i_X12 2 rfl rfl 14 (by decide) b_1132 rfl dX12_readTells_64 ?_
          refine lv_bipush (v := 101) hx hb dX12_readTells_67 (by decide) ?_
          refine lv_iload_n hx hb dX12_readTells_69 rfl (lv_at hl 1 rfl) ?_
          refine lv_iadd hx hb dX12_readTells_70 ?_
          refine lv_topi (fun z27 e_z27 => ?_)
          refine lv_dup2_11 hx hb dX12_readTells_71 rfl rfl ?_
          refine va_iald hx hb hKn.1 hP 0 0 rfl rfl (vp_in_iff.mpr ⟨by omega, by omega⟩) dX12_readTells_72 ?_
          refine lv_topi (fun z28 e_z28 => ?_)
          have q_z28 : z28.toInt = (mfresh z27.toNatClampNeg).toInt := by rw [e_z28]
          refine lv_iconst (v := 1) hx hb dX12_readTells_73 (by decide) ?_
          refine lv_iload_n hx hb dX12_readTells_74 rfl (lv_at hl 0 rfl) ?_
          refine lv_ishl hx hb dX12_readTells_75 ?_
          refine lv_topi (fun z29 e_z29 => ?_)
          refine lv_ior hx hb dX12_readTells_76 ?_
          refine lv_topi (fun z30 e_z30 => ?_)
          refine va_iast hx hb hKn.1 hP hD hS 0 0 rfl rfl (vp_in_iff.mpr ⟨by omega, by omega⟩) dX12_readTells_77 (fun H locs hP hD hS => ?_)
          have hP : va_P g.1 vwCl [(a14, .inl (g.2 0, 225, .inl (upd mfresh (z27.toNatClampNeg) z30))), (a4, .inl (g.2 1, 900, .inl mtape)), (h0, .inr (12, [.int mthrown, .ref a1, .ref a2, .ref a3, .ref a4, .int mtaped, .ref a6, .int msize, .int (u22.1 1), .int (u22.1 2), .int (u22.1 3), .int (u22.1 4), .int (u22.1 5), .int (u22.1 6), .ref a14, .ref a15, .int mgoal, .int mgoalDays, .int mgoalHearer, .ref a19, .ref a20, .int mleastOrder, .int mwordsMany, .ref a23, .ref a24, .ref a25, .ref a26, .ref a27, .ref a28]))] H := hP
          have hD : va_D A [(a14, .inl (g.2 0, 225, .inl (upd mfresh (z27.toNatClampNeg) z30))), (a4, .inl (g.2 1, 900, .inl mtape)), (h0, .inr (12, [.int mthrown, .ref a1, .ref a2, .ref a3, .ref a4, .int mtaped, .ref a6, .int msize, .int (u22.1 1), .int (u22.1 2), .int (u22.1 3), .int (u22.1 4), .int (u22.1 5), .int (u22.1 6), .ref a14, .ref a15, .int mgoal, .int mgoalDays, .int mgoalHearer, .ref a19, .ref a20, .int mleastOrder, .int mwordsMany, .ref a23, .ref a24, .ref a25, .ref a26, .ref a27, .ref a28]))] := hD
          have a_f31 : wok (upd mfresh (z27.toNatClampNeg) z30) := (wx_f i_mfresh (by omega) (by omega))
          generalize E_f31 : (upd mfresh (z27.toNatClampNeg) z30 : Nat → Int32) = f31 at hP hD a_f31
          have g_f31_0 : (f31 0).toInt = (mfresh 0).toInt := by rw [← E_f31, uo (by have := cln (x := z27) (by omega); omega)]
          have g_f31_2 : (f31 2).toInt = (mfresh 2).toInt := by rw [← E_f31, uo (by have := cln (x := z27) (by omega); omega)]
          have g_f31_5 : (f31 5).toInt = (mfresh 5).toInt := by rw [← E_f31, uo (by have := cln (x := z27) (by omega); omega)]
          have g_f31_6 : (f31 6).toInt = (mfresh 6).toInt := by rw [← E_f31, uo (by have := cln (x := z27) (by omega); omega)]
          have g_f31_7 : (f31 7).toInt = (mfresh 7).toInt := by rw [← E_f31, uo (by have := cln (x := z27) (by omega); omega)]
          have g_f31_8 : (f31 8).toInt = (mfresh 8).toInt := by rw [← E_f31, uo (by have := cln (x := z27) (by omega); omega)]
          have g_f31_9 : (f31 9).toInt = (mfresh 9).toInt := by rw [← E_f31, uo (by have := cln (x := z27) (by omega); omega)]
          exact rt_v FX ((fun k => match k with | 0 => 0 | 1 => u22.1 1 | 2 => u22.1 2 | 3 => u22.1 3 | 4 => u22.1 4 | 5 => u22.1 5 | 6 => u22.1 6 | _ => 0), (fun k => match k with | 0 => f31 | _ => fun _ => 0), (fun _ => fun _ => 0)) rfl ⟨(show 0 ≤ (u22.1 1).toInt ∧ (u22.1 1).toInt ≤ 900 by omega), (show 0 ≤ (u22.1 2).toInt ∧ (u22.1 2).toInt ≤ 900 by omega), (show 0 ≤ (u22.1 3).toInt ∧ (u22.1 3).toInt ≤ 4 by omega), (show 0 ≤ (u22.1 4).toInt ∧ (u22.1 4).toInt ≤ 99999 by omega), (show 0 ≤ (u22.1 5).toInt ∧ (u22.1 5).toInt ≤ 3 by omega), a_f31, (show 5 * mat.toInt - mtoken.toInt ≤ 5 * (u22.1 1).toInt - (u22.1 3).toInt by omega), (show (u22.1 5).toInt = 0 → mfaultKind.toInt = 0 by omega), (show ((f31) 0).toInt = (mfresh 0).toInt ∧ ((f31) 2).toInt = (mfresh 2).toInt from (show (f31 0).toInt = (mfresh 0).toInt ∧ (f31 2).toInt = (mfresh 2).toInt by omega))⟩ (hP.sub [2, 1, 0] rfl) (hD.sub [2, 1, 0] (by decide) rfl) hS (Nat.le_of_ble_eq_true rfl) (Nat.le_of_ble_eq_true rfl) dX12_readTells_78
        · skip
          refine tp_i (v := 0) (Int32.toInt_inj.mp (show (u24.1 0).toInt = (0 : Int32).toInt by rw [show (0 : Int32).toInt = 0 by decide]; omega)) ?_
          refine lv_if_eq (tgt := 78) hx hb dX12_readTells_60 (by decide) (fun _ => ?_) (fun h => absurd h (by decide))
          exact rt_v FX ((fun k => match k with | 0 => 0 | 1 => u22.1 1 | 2 => u22.1 2 | 3 => u22.1 3 | 4 => u22.1 4 | 5 => u22.1 5 | 6 => u22.1 6 | _ => 0), (fun k => match k with | 0 => mfresh | _ => fun _ => 0), (fun _ => fun _ => 0)) rfl ⟨(show 0 ≤ (u22.1 1).toInt ∧ (u22.1 1).toInt ≤ 900 by omega), (show 0 ≤ (u22.1 2).toInt ∧ (u22.1 2).toInt ≤ 900 by omega), (show 0 ≤ (u22.1 3).toInt ∧ (u22.1 3).toInt ≤ 4 by omega), (show 0 ≤ (u22.1 4).toInt ∧ (u22.1 4).toInt ≤ 99999 by omega), (show 0 ≤ (u22.1 5).toInt ∧ (u22.1 5).toInt ≤ 3 by omega), i_mfresh, (show 5 * mat.toInt - mtoken.toInt ≤ 5 * (u22.1 1).toInt - (u22.1 3).toInt by omega), (show (u22.1 5).toInt = 0 → mfaultKind.toInt = 0 by omega), (show ((mfresh) 0).toInt = (mfresh 0).toInt ∧ ((mfresh) 2).toInt = (mfresh 2).toInt from (show (mfresh 0).toInt = (mfresh 0).toInt ∧ (mfresh 2).toInt = (mfresh 2).toInt by omega))⟩ (hP.sub [2, 1, 0] rfl) (hD.sub [2, 1, 0] (by decide) rfl) hS (Nat.le_of_ble_eq_true rfl) (Nat.le_of_ble_eq_true rfl) dX12_readTells_78
      · have c20 := k_eq (a := (u3.1 4).toInt) (b := (u3.1 0).toInt) rfl rfl c20
        refine lv_aload_n hx hb dX12_readTells_37 rfl (lv_at hl 1 rfl) ?_
        refine lv_iconst (v := 2) hx hb dX12_readTells_38 (by decide) ?_
        have kc2 : (2 : Int32).toInt = 2 := by decide
        refine call_V (As := [.int 2]) (rest := []) (wr := [(a14, .inl (g.2 0, 225, .inl mfresh)), (a4, .inl (g.2 1, 900, .inl mtape))]) FC hKn hZ (k_X12_errs l g h0 a1 a2 a3 a4 a6 a14 a15 a19 a20 a23 a24 a25 a26 a27 a28 mthrown mtaped msize (u3.1 1) (u3.1 2) (u3.1 3) (u3.1 4) (u3.1 5) (u3.1 6) mgoal mgoalDays mgoalHearer mleastOrder mwordsMany ((2 : Int32)) (by omega) (by omega) (by omega) (by omega) (by omega) (by omega) (by omega) (by omega) (by omega) (by omega)) m_yX12_errs b_1129 (ci := 12) rfl rfl rfl hP hD hS hA [2] [0, 1] rfl (by decide) rfl (by decide) (by decide) rfl hl.1 rfl (Nat.le_of_ble_eq_true rfl) dX12_readTells_39 ⟨(Nat.le_of_ble_eq_true rfl), (Nat.le_of_ble_eq_true rfl)⟩ ⟨(Nat.le_of_ble_eq_true rfl), (Nat.le_of_ble_eq_true rfl)⟩ (fun u32 H locs q33 hP hD hS => ?_)
        have q33_0 : 1 ≤ (u32.1 1).toInt ∧ (u32.1 1).toInt ≤ 3 := q33
        have hP : va_P g.1 vwCl [(a14, .inl (g.2 0, 225, .inl mfresh)), (a4, .inl (g.2 1, 900, .inl mtape)), (h0, .inr (12, [.int mthrown, .ref a1, .ref a2, .ref a3, .ref a4, .int mtaped, .ref a6, .int msize, .int (u3.1 1), .int (u3.1 2), .int (u3.1 3), .int (u3.1 4), .int (u32.1 1), .int (u32.1 2), .ref a14, .ref a15, .int mgoal, .int mgoalDays, .int mgoalHearer, .ref a19, .ref a20, .int mleastOrder, .int mwordsMany, .ref a23, .ref a24, .ref a25, .ref a26, .ref a27, .ref a28]))] H := hP
        have hD : va_D A [(a14, .inl (g.2 0, 225, .inl mfresh)), (a4, .inl (g.2 1, 900, .inl mtape)), (h0, .inr (12, [.int mthrown, .ref a1, .ref a2, .ref a3, .ref a4, .int mtaped, .ref a6, .int msize, .int (u3.1 1), .int (u3.1 2), .int (u3.1 3), .int (u3.1 4), .int (u32.1 1), .int (u32.1 2), .ref a14, .ref a15, .int mgoal, .int mgoalDays, .int mgoalHearer, .ref a19, .ref a20, .int mleastOrder, .int mwordsMany, .ref a23, .ref a24, .ref a25, .ref a26, .ref a27, .ref a28]))] := hD
        refine W.eq (g2 := F0 m 42 ls []) rfl ?_
        refine lv_aload_n hx hb dX12_readTells_42 rfl (lv_at hl 1 rfl) ?_
        refine lv_iconst (v := 0) hx hb dX12_readTells_43 (by decide) ?_
        refine lv_aload_n hx hb dX12_readTells_44 rfl (lv_at hl 1 rfl) ?_
        refine g_get (C := RX12) (T := TX12) (N := 29) (ci := 12) (v := .ref a14) FC hKn hP i_X12 2 rfl rfl 14 (by decide) b_1132 rfl dX12_readTells_45 ?_
        refine lv_iconst (v := 5) hx hb dX12_readTells_48 (by decide) ?_
        refine va_iald hx hb hKn.1 hP 0 0 rfl rfl (by unfold vp_in; decide) dX12_readTells_49 ?_
        refine tp_i (v := z1) e_z1.symm ?_
        refine lv_iconst (v := 1) hx hb dX12_readTells_50 (by decide) ?_
        refine lv_isub hx hb dX12_readTells_51 ?_
        refine lv_topi (fun z34 e_z34 => ?_)
        have t_z34 : z34.toInt = z1.toInt - ((1 : Int32)).toInt := by rw [e_z34]; exact fb_subI (by omega) (by omega)
        refine call_V (As := [.int 0, .int z34]) (rest := []) (wr := [(a14, .inl (g.2 0, 225, .inl mfresh))]) FC hKn hZ (k_X12_number l g h0 a1 a2 a3 a4 a6 a14 a15 a19 a20 a23 a24 a25 a26 a27 a28 mthrown mtaped msize (u3.1 1) (u3.1 2) (u3.1 3) (u3.1 4) (u32.1 1) (u32.1 2) mgoal mgoalDays mgoalHearer mleastOrder mwordsMany mtape ((0 : Int32)) z34 (by omega) (by omega) (by omega) (by omega) (by omega) (by omega) (by omega) (by omega) (by omega)) m_yX12_number b_1131 (ci := 12) rfl rfl rfl hP hD hS hA [2, 1] [0] rfl (by decide) rfl (by decide) (by decide) rfl hl.1 rfl (Nat.le_of_ble_eq_true rfl) dX12_readTells_52 ⟨(Nat.le_of_ble_eq_true rfl), (Nat.le_of_ble_eq_true rfl)⟩ ⟨(Nat.le_of_ble_eq_true rfl), (Nat.le_of_ble_eq_true rfl)⟩ (fun u35 H locs q36 hP hD hS => ?_)
        obtain ⟨q36_0, q36_1, q36_2, q36_3, q36_4, q36_5, q36_6, q36_7, q36_8, q36_9⟩ := q36
        have hP : va_P g.1 vwCl [(a14, .inl (g.2 0, 225, .inl mfresh)), (h0, .inr (12, [.int mthrown, .ref a1, .ref a2, .ref a3, .ref a4, .int mtaped, .ref a6, .int msize, .int (u35.1 1), .int (u35.1 2), .int (u35.1 3), .int (u35.1 4), .int (u35.1 5), .int (u35.1 6), .ref a14, .ref a15, .int mgoal, .int mgoalDays, .int mgoalHearer, .ref a19, .ref a20, .int mleastOrder, .int mwordsMany, .ref a23, .ref a24, .ref a25, .ref a26, .ref a27, .ref a28])), (a4, .inl (g.2 1, 900, .inl mtape))] H := hP
        have hD : va_D A [(a14, .inl (g.2 0, 225, .inl mfresh)), (h0, .inr (12, [.int mthrown, .ref a1, .ref a2, .ref a3, .ref a4, .int mtaped, .ref a6, .int msize, .int (u35.1 1), .int (u35.1 2), .int (u35.1 3), .int (u35.1 4), .int (u35.1 5), .int (u35.1 6), .ref a14, .ref a15, .int mgoal, .int mgoalDays, .int mgoalHearer, .ref a19, .ref a20, .int mleastOrder, .int mwordsMany, .ref a23, .ref a24, .ref a25, .ref a26, .ref a27, .ref a28])), (a4, .inl (g.2 1, 900, .inl mtape))] := hD
        refine W.eq (g2 := F0 m 55 ls [.int (u35.1 0)]) rfl ?_
        refine lv_istore_n (lv' := [(2, .int (u35.1 0)), (1, .int (u3.1 0)), (0, .ref h0)]) hx hb dX12_readTells_55 rfl hl (by decide) rfl (fun ls hl => ?_)
        refine lv_aload_n hx hb dX12_readTells_56 rfl (lv_at hl 2 rfl) ?_
        refine call_V (As := []) (rest := []) (wr := [(a14, .inl (g.2 0, 225, .inl mfresh)), (a4, .inl (g.2 1, 900, .inl mtape))]) FC hKn hZ (k_X12_good l g h0 a1 a2 a3 a4 a6 a14 a15 a19 a20 a23 a24 a25 a26 a27 a28 mthrown mtaped msize (u35.1 1) (u35.1 2) (u35.1 3) (u35.1 4) (u35.1 5) (u35.1 6) mgoal mgoalDays mgoalHearer mleastOrder mwordsMany (by omega) (by omega) (by omega) (by omega) (by omega) (by omega) (by omega) (by omega) (by omega)) m_yX12_good b_1117 (ci := 12) rfl rfl rfl hP hD hS hA [1] [0, 2] rfl (by decide) rfl (by decide) (by decide) rfl hl.1 rfl (Nat.le_of_ble_eq_true rfl) dX12_readTells_57 ⟨(Nat.le_of_ble_eq_true rfl), (Nat.le_of_ble_eq_true rfl)⟩ ⟨(Nat.le_of_ble_eq_true rfl), (Nat.le_of_ble_eq_true rfl)⟩ (fun u37 H locs q38 hP hD hS => ?_)
        obtain ⟨q38_0, q38_1⟩ := q38
        have hP : va_P g.1 vwCl [(a14, .inl (g.2 0, 225, .inl mfresh)), (a4, .inl (g.2 1, 900, .inl mtape)), (h0, .inr (12, [.int mthrown, .ref a1, .ref a2, .ref a3, .ref a4, .int mtaped, .ref a6, .int msize, .int (u35.1 1), .int (u35.1 2), .int (u35.1 3), .int (u35.1 4), .int (u35.1 5), .int (u35.1 6), .ref a14, .ref a15, .int mgoal, .int mgoalDays, .int mgoalHearer, .ref a19, .ref a20, .int mleastOrder, .int mwordsMany, .ref a23, .ref a24, .ref a25, .ref a26, .ref a27, .ref a28]))] H := hP
        have hD : va_D A [(a14, .inl (g.2 0, 225, .inl mfresh)), (a4, .inl (g.2 1, 900, .inl mtape)), (h0, .inr (12, [.int mthrown, .ref a1, .ref a2, .ref a3, .ref a4, .int mtaped, .ref a6, .int msize, .int (u35.1 1), .int (u35.1 2), .int (u35.1 3), .int (u35.1 4), .int (u35.1 5), .int (u35.1 6), .ref a14, .ref a15, .int mgoal, .int mgoalDays, .int mgoalHearer, .ref a19, .ref a20, .int mleastOrder, .int mwordsMany, .ref a23, .ref a24, .ref a25, .ref a26, .ref a27, .ref a28]))] := hD
        refine W.eq (g2 := F0 m 60 ls [.int (u37.1 0)]) rfl ?_
        rcases (show (u35.1 5).toInt = 0 ∨ (u35.1 5).toInt ≠ 0 by omega) with c39 | c39
        · skip
          refine tp_i (v := 1) (Int32.toInt_inj.mp (show (u37.1 0).toInt = (1 : Int32).toInt by rw [show (1 : Int32).toInt = 1 by decide]; omega)) ?_
          refine lv_if_eq (tgt := 78) hx hb dX12_readTells_60 (by decide) (fun h => absurd h (by decide)) (fun _ => ?_)
          refine lv_aload_n hx hb dX12_readTells_63 rfl (lv_at hl 2 rfl) ?_
          refine g_get (C := RX12) (T := TX12) (N := 29) (ci := 12) (v := .ref a14) FC hKn hP i_X12 2 rfl rfl 14 (by decide) b_1132 rfl dX12_readTells_64 ?_
          refine lv_bipush (v := 101) hx hb dX12_readTells_67 (by decide) ?_
          refine lv_iload_n hx hb dX12_readTells_69 rfl (lv_at hl 1 rfl) ?_
          refine lv_iadd hx hb dX12_readTells_70 ?_
          have kc101 : (101 : Int32).toInt = 101 := by decide
          refine lv_topi (fun z40 e_z40 => ?_)
          have t_z40 : z40.toInt = ((101 : Int32)).toInt + (u3.1 0).toInt := by rw [e_z40]; exact fb_addI (by omega) (by omega)
          refine lv_dup2_11 hx hb dX12_readTells_71 rfl rfl ?_
          refine va_iald hx hb hKn.1 hP 0 0 rfl rfl (vp_in_iff.mpr ⟨by omega, by omega⟩) dX12_readTells_72 ?_
          refine lv_topi (fun z41 e_z41 => ?_)
          have q_z41 : z41.toInt = (mfresh z40.toNatClampNeg).toInt := by rw [e_z41]
          refine lv_iconst (v := 1) hx hb dX12_readTells_73 (by decide) ?_
          refine lv_iload_n hx hb dX12_readTells_74 rfl (lv_at hl 0 rfl) ?_
          refine lv_ishl hx hb dX12_readTells_75 ?_
          refine lv_topi (fun z42 e_z42 => ?_)
          refine lv_ior hx hb dX12_readTells_76 ?_
          refine lv_topi (fun z43 e_z43 => ?_)
          refine va_iast hx hb hKn.1 hP hD hS 0 0 rfl rfl (vp_in_iff.mpr ⟨by omega, by omega⟩) dX12_readTells_77 (fun H locs hP hD hS => ?_)
          have hP : va_P g.1 vwCl [(a14, .inl (g.2 0, 225, .inl (upd mfresh (z40.toNatClampNeg) z43))), (a4, .inl (g.2 1, 900, .inl mtape)), (h0, .inr (12, [.int mthrown, .ref a1, .ref a2, .ref a3, .ref a4, .int mtaped, .ref a6, .int msize, .int (u35.1 1), .int (u35.1 2), .int (u35.1 3), .int (u35.1 4), .int (u35.1 5), .int (u35.1 6), .ref a14, .ref a15, .int mgoal, .int mgoalDays, .int mgoalHearer, .ref a19, .ref a20, .int mleastOrder, .int mwordsMany, .ref a23, .ref a24, .ref a25, .ref a26, .ref a27, .ref a28]))] H := hP
          have hD : va_D A [(a14, .inl (g.2 0, 225, .inl (upd mfresh (z40.toNatClampNeg) z43))), (a4, .inl (g.2 1, 900, .inl mtape)), (h0, .inr (12, [.int mthrown, .ref a1, .ref a2, .ref a3, .ref a4, .int mtaped, .ref a6, .int msize, .int (u35.1 1), .int (u35.1 2), .int (u35.1 3), .int (u35.1 4), .int (u35.1 5), .int (u35.1 6), .ref a14, .ref a15, .int mgoal, .int mgoalDays, .int mgoalHearer, .ref a19, .ref a20, .int mleastOrder, .int mwordsMany, .ref a23, .ref a24, .ref a25, .ref a26, .ref a27, .ref a28]))] := hD
          have a_f44 : wok (upd mfresh (z40.toNatClampNeg) z43) := (wx_f i_mfresh (by omega) (by omega))
          generalize E_f44 : (upd mfresh (z40.toNatClampNeg) z43 : Nat → Int32) = f44 at hP hD a_f44
          have g_f44_0 : (f44 0).toInt = (mfresh 0).toInt := by rw [← E_f44, uo (by have := cln (x := z40) (by omega); omega)]
          have g_f44_2 : (f44 2).toInt = (mfresh 2).toInt := by rw [← E_f44, uo (by have := cln (x := z40) (by omega); omega)]
          have g_f44_5 : (f44 5).toInt = (mfresh 5).toInt := by rw [← E_f44, uo (by have := cln (x := z40) (by omega); omega)]
          have g_f44_6 : (f44 6).toInt = (mfresh 6).toInt := by rw [← E_f44, uo (by have := cln (x := z40) (by omega); omega)]
          have g_f44_7 : (f44 7).toInt = (mfresh 7).toInt := by rw [← E_f44, uo (by have := cln (x := z40) (by omega); omega)]
          have g_f44_8 : (f44 8).toInt = (mfresh 8).toInt := by rw [← E_f44, uo (by have := cln (x := z40) (by omega); omega)]
          have g_f44_9 : (f44 9).toInt = (mfresh 9).toInt := by rw [← E_f44, uo (by have := cln (x := z40) (by omega); omega)]
          exact rt_v FX ((fun k => match k with | 0 => 0 | 1 => u35.1 1 | 2 => u35.1 2 | 3 => u35.1 3 | 4 => u35.1 4 | 5 => u35.1 5 | 6 => u35.1 6 | _ => 0), (fun k => match k with | 0 => f44 | _ => fun _ => 0), (fun _ => fun _ => 0)) rfl ⟨(show 0 ≤ (u35.1 1).toInt ∧ (u35.1 1).toInt ≤ 900 by omega), (show 0 ≤ (u35.1 2).toInt ∧ (u35.1 2).toInt ≤ 900 by omega), (show 0 ≤ (u35.1 3).toInt ∧ (u35.1 3).toInt ≤ 4 by omega), (show 0 ≤ (u35.1 4).toInt ∧ (u35.1 4).toInt ≤ 99999 by omega), (show 0 ≤ (u35.1 5).toInt ∧ (u35.1 5).toInt ≤ 3 by omega), a_f44, (show 5 * mat.toInt - mtoken.toInt ≤ 5 * (u35.1 1).toInt - (u35.1 3).toInt by omega), (show (u35.1 5).toInt = 0 → mfaultKind.toInt = 0 by omega), (show ((f44) 0).toInt = (mfresh 0).toInt ∧ ((f44) 2).toInt = (mfresh 2).toInt from (show (f44 0).toInt = (mfresh 0).toInt ∧ (f44 2).toInt = (mfresh 2).toInt by omega))⟩ (hP.sub [2, 1, 0] rfl) (hD.sub [2, 1, 0] (by decide) rfl) hS (Nat.le_of_ble_eq_true rfl) (Nat.le_of_ble_eq_true rfl) dX12_readTells_78
        · skip
          refine tp_i (v := 0) (Int32.toInt_inj.mp (show (u37.1 0).toInt = (0 : Int32).toInt by rw [show (0 : Int32).toInt = 0 by decide]; omega)) ?_
          refine lv_if_eq (tgt := 78) hx hb dX12_readTells_60 (by decide) (fun _ => ?_) (fun h => absurd h (by decide))
          exact rt_v FX ((fun k => match k with | 0 => 0 | 1 => u35.1 1 | 2 => u35.1 2 | 3 => u35.1 3 | 4 => u35.1 4 | 5 => u35.1 5 | 6 => u35.1 6 | _ => 0), (fun k => match k with | 0 => mfresh | _ => fun _ => 0), (fun _ => fun _ => 0)) rfl ⟨(show 0 ≤ (u35.1 1).toInt ∧ (u35.1 1).toInt ≤ 900 by omega), (show 0 ≤ (u35.1 2).toInt ∧ (u35.1 2).toInt ≤ 900 by omega), (show 0 ≤ (u35.1 3).toInt ∧ (u35.1 3).toInt ≤ 4 by omega), (show 0 ≤ (u35.1 4).toInt ∧ (u35.1 4).toInt ≤ 99999 by omega), (show 0 ≤ (u35.1 5).toInt ∧ (u35.1 5).toInt ≤ 3 by omega), i_mfresh, (show 5 * mat.toInt - mtoken.toInt ≤ 5 * (u35.1 1).toInt - (u35.1 3).toInt by omega), (show (u35.1 5).toInt = 0 → mfaultKind.toInt = 0 by omega), (show ((mfresh) 0).toInt = (mfresh 0).toInt ∧ ((mfresh) 2).toInt = (mfresh 2).toInt from (show (mfresh 0).toInt = (mfresh 0).toInt ∧ (mfresh 2).toInt = (mfresh 2).toInt by omega))⟩ (hP.sub [2, 1, 0] rfl) (hD.sub [2, 1, 0] (by decide) rfl) hS (Nat.le_of_ble_eq_true rfl) (Nat.le_of_ble_eq_true rfl) dX12_readTells_78
  · skip
    refine tp_i (v := 0) (Int32.toInt_inj.mp (show (u5.1 0).toInt = (0 : Int32).toInt by rw [show (0 : Int32).toInt = 0 by decide]; omega)) ?_
    refine lv_if_eq (tgt := 42) hx hb dX12_readTells_18 (by decide) (fun _ => ?_) (fun h => absurd h (by decide))
    refine lv_aload_n hx hb dX12_readTells_42 rfl (lv_at hl 1 rfl) ?_
    refine lv_iconst (v := 0) hx hb dX12_readTells_43 (by decide) ?_
    refine lv_aload_n hx hb dX12_readTells_44 rfl (lv_at hl 1 rfl) ?_
    refine g_get (C := RX12) (T := TX12) (N := 29) (ci := 12) (v := .ref a14) FC hKn hP i_X12 2 rfl rfl 14 (by decide) b_1132 rfl dX12_readTells_45 ?_
    refine lv_iconst (v := 5) hx hb dX12_readTells_48 (by decide) ?_
    refine va_iald hx hb hKn.1 hP 0 0 rfl rfl (by unfold vp_in; decide) dX12_readTells_49 ?_
    refine tp_i (v := z1) e_z1.symm ?_
    refine lv_iconst (v := 1) hx hb dX12_readTells_50 (by decide) ?_
    refine lv_isub hx hb dX12_readTells_51 ?_
    refine lv_topi (fun z45 e_z45 => ?_)
    have t_z45 : z45.toInt = z1.toInt - ((1 : Int32)).toInt := by rw [e_z45]; exact fb_subI (by omega) (by omega)
    refine call_V (As := [.int 0, .int z45]) (rest := []) (wr := [(a14, .inl (g.2 0, 225, .inl mfresh))]) FC hKn hZ (k_X12_number l g h0 a1 a2 a3 a4 a6 a14 a15 a19 a20 a23 a24 a25 a26 a27 a28 mthrown mtaped msize (u3.1 1) (u3.1 2) (u3.1 3) (u3.1 4) (u3.1 5) (u3.1 6) mgoal mgoalDays mgoalHearer mleastOrder mwordsMany mtape ((0 : Int32)) z45 (by omega) (by omega) (by omega) (by omega) (by omega) (by omega) (by omega) (by omega) (by omega)) m_yX12_number b_1131 (ci := 12) rfl rfl rfl hP hD hS hA [2, 1] [0] rfl (by decide) rfl (by decide) (by decide) rfl hl.1 rfl (Nat.le_of_ble_eq_true rfl) dX12_readTells_52 ⟨(Nat.le_of_ble_eq_true rfl), (Nat.le_of_ble_eq_true rfl)⟩ ⟨(Nat.le_of_ble_eq_true rfl), (Nat.le_of_ble_eq_true rfl)⟩ (fun u46 H locs q47 hP hD hS => ?_)
    obtain ⟨q47_0, q47_1, q47_2, q47_3, q47_4, q47_5, q47_6, q47_7, q47_8, q47_9⟩ := q47
    have hP : va_P g.1 vwCl [(a14, .inl (g.2 0, 225, .inl mfresh)), (h0, .inr (12, [.int mthrown, .ref a1, .ref a2, .ref a3, .ref a4, .int mtaped, .ref a6, .int msize, .int (u46.1 1), .int (u46.1 2), .int (u46.1 3), .int (u46.1 4), .int (u46.1 5), .int (u46.1 6), .ref a14, .ref a15, .int mgoal, .int mgoalDays, .int mgoalHearer, .ref a19, .ref a20, .int mleastOrder, .int mwordsMany, .ref a23, .ref a24, .ref a25, .ref a26, .ref a27, .ref a28])), (a4, .inl (g.2 1, 900, .inl mtape))] H := hP
    have hD : va_D A [(a14, .inl (g.2 0, 225, .inl mfresh)), (h0, .inr (12, [.int mthrown, .ref a1, .ref a2, .ref a3, .ref a4, .int mtaped, .ref a6, .int msize, .int (u46.1 1), .int (u46.1 2), .int (u46.1 3), .int (u46.1 4), .int (u46.1 5), .int (u46.1 6), .ref a14, .ref a15, .int mgoal, .int mgoalDays, .int mgoalHearer, .ref a19, .ref a20, .int mleastOrder, .int mwordsMany, .ref a23, .ref a24, .ref a25, .ref a26, .ref a27, .ref a28])), (a4, .inl (g.2 1, 900, .inl mtape))] := hD
    refine W.eq (g2 := F0 m 55 ls [.int (u46.1 0)]) rfl ?_
    refine lv_istore_n (lv' := [(2, .int (u46.1 0)), (1, .int (u3.1 0)), (0, .ref h0)]) hx hb dX12_readTells_55 rfl hl (by decide) rfl (fun ls hl => ?_)
    refine lv_aload_n hx hb dX12_readTells_56 rfl (lv_at hl 2 rfl) ?_
    refine call_V (As := []) (rest := []) (wr := [(a14, .inl (g.2 0, 225, .inl mfresh)), (a4, .inl (g.2 1, 900, .inl mtape))]) FC hKn hZ (k_X12_good l g h0 a1 a2 a3 a4 a6 a14 a15 a19 a20 a23 a24 a25 a26 a27 a28 mthrown mtaped msize (u46.1 1) (u46.1 2) (u46.1 3) (u46.1 4) (u46.1 5) (u46.1 6) mgoal mgoalDays mgoalHearer mleastOrder mwordsMany (by omega) (by omega) (by omega) (by omega) (by omega) (by omega) (by omega) (by omega) (by omega)) m_yX12_good b_1117 (ci := 12) rfl rfl rfl hP hD hS hA [1] [0, 2] rfl (by decide) rfl (by decide) (by decide) rfl hl.1 rfl (Nat.le_of_ble_eq_true rfl) dX12_readTells_57 ⟨(Nat.le_of_ble_eq_true rfl), (Nat.le_of_ble_eq_true rfl)⟩ ⟨(Nat.le_of_ble_eq_true rfl), (Nat.le_of_ble_eq_true rfl)⟩ (fun u48 H locs q49 hP hD hS => ?_)
    obtain ⟨q49_0, q49_1⟩ := q49
    have hP : va_P g.1 vwCl [(a14, .inl (g.2 0, 225, .inl mfresh)), (a4, .inl (g.2 1, 900, .inl mtape)), (h0, .inr (12, [.int mthrown, .ref a1, .ref a2, .ref a3, .ref a4, .int mtaped, .ref a6, .int msize, .int (u46.1 1), .int (u46.1 2), .int (u46.1 3), .int (u46.1 4), .int (u46.1 5), .int (u46.1 6), .ref a14, .ref a15, .int mgoal, .int mgoalDays, .int mgoalHearer, .ref a19, .ref a20, .int mleastOrder, .int mwordsMany, .ref a23, .ref a24, .ref a25, .ref a26, .ref a27, .ref a28]))] H := hP
    have hD : va_D A [(a14, .inl (g.2 0, 225, .inl mfresh)), (a4, .inl (g.2 1, 900, .inl mtape)), (h0, .inr (12, [.int mthrown, .ref a1, .ref a2, .ref a3, .ref a4, .int mtaped, .ref a6, .int msize, .int (u46.1 1), .int (u46.1 2), .int (u46.1 3), .int (u46.1 4), .int (u46.1 5), .int (u46.1 6), .ref a14, .ref a15, .int mgoal, .int mgoalDays, .int mgoalHearer, .ref a19, .ref a20, .int mleastOrder, .int mwordsMany, .ref a23, .ref a24, .ref a25, .ref a26, .ref a27, .ref a28]))] := hD
    refine W.eq (g2 := F0 m 60 ls [.int (u48.1 0)]) rfl ?_
    rcases (show (u46.1 5).toInt = 0 ∨ (u46.1 5).toInt ≠ 0 by omega) with c50 | c50
    · skip
      refine tp_i (v := 1) (Int32.toInt_inj.mp (show (u48.1 0).toInt = (1 : Int32).toInt by rw [show (1 : Int32).toInt = 1 by decide]; omega)) ?_
      refine lv_if_eq (tgt := 78) hx hb dX12_readTells_60 (by decide) (fun h => absurd h (by decide)) (fun _ => ?_)
      refine lv_aload_n hx hb dX12_readTells_63 rfl (lv_at hl 2 rfl) ?_
      refine g_get (C := RX12) (T := TX12) (N := 29) (ci := 12) (v := .ref a14) FC hKn hP i_X12 2 rfl rfl 14 (by decide) b_1132 rfl dX12_readTells_64 ?_
      refine lv_bipush (v := 101) hx hb dX12_readTells_67 (by decide) ?_
      refine lv_iload_n hx hb dX12_readTells_69 rfl (lv_at hl 1 rfl) ?_
      refine lv_iadd hx hb dX12_readTells_70 ?_
      refine lv_topi (fun z51 e_z51 => ?_)
      refine lv_dup2_11 hx hb dX12_readTells_71 rfl rfl ?_
      refine va_iald hx hb hKn.1 hP 0 0 rfl rfl (vp_in_iff.mpr ⟨by omega, by omega⟩) dX12_readTells_72 ?_
      refine lv_topi (fun z52 e_z52 => ?_)
      have q_z52 : z52.toInt = (mfresh z51.toNatClampNeg).toInt := by rw [e_z52]
      refine lv_iconst (v := 1) hx hb dX12_readTells_73 (by decide) ?_
      refine lv_iload_n hx hb dX12_readTells_74 rfl (lv_at hl 0 rfl) ?_
      refine lv_ishl hx hb dX12_readTells_75 ?_
      refine lv_topi (fun z53 e_z53 => ?_)
      refine lv_ior hx hb dX12_readTells_76 ?_
      refine lv_topi (fun z54 e_z54 => ?_)
      refine va_iast hx hb hKn.1 hP hD hS 0 0 rfl rfl (vp_in_iff.mpr ⟨by omega, by omega⟩) dX12_readTells_77 (fun H locs hP hD hS => ?_)
      have hP : va_P g.1 vwCl [(a14, .inl (g.2 0, 225, .inl (upd mfresh (z51.toNatClampNeg) z54))), (a4, .inl (g.2 1, 900, .inl mtape)), (h0, .inr (12, [.int mthrown, .ref a1, .ref a2, .ref a3, .ref a4, .int mtaped, .ref a6, .int msize, .int (u46.1 1), .int (u46.1 2), .int (u46.1 3), .int (u46.1 4), .int (u46.1 5), .int (u46.1 6), .ref a14, .ref a15, .int mgoal, .int mgoalDays, .int mgoalHearer, .ref a19, .ref a20, .int mleastOrder, .int mwordsMany, .ref a23, .ref a24, .ref a25, .ref a26, .ref a27, .ref a28]))] H := hP
      have hD : va_D A [(a14, .inl (g.2 0, 225, .inl (upd mfresh (z51.toNatClampNeg) z54))), (a4, .inl (g.2 1, 900, .inl mtape)), (h0, .inr (12, [.int mthrown, .ref a1, .ref a2, .ref a3, .ref a4, .int mtaped, .ref a6, .int msize, .int (u46.1 1), .int (u46.1 2), .int (u46.1 3), .int (u46.1 4), .int (u46.1 5), .int (u46.1 6), .ref a14, .ref a15, .int mgoal, .int mgoalDays, .int mgoalHearer, .ref a19, .ref a20, .int mleastOrder, .int mwordsMany, .ref a23, .ref a24, .ref a25, .ref a26, .ref a27, .ref a28]))] := hD
      have a_f55 : wok (upd mfresh (z51.toNatClampNeg) z54) := (wx_f i_mfresh (by omega) (by omega))
      generalize E_f55 : (upd mfresh (z51.toNatClampNeg) z54 : Nat → Int32) = f55 at hP hD a_f55
      have g_f55_0 : (f55 0).toInt = (mfresh 0).toInt := by rw [← E_f55, uo (by have := cln (x := z51) (by omega); omega)]
      have g_f55_2 : (f55 2).toInt = (mfresh 2).toInt := by rw [← E_f55, uo (by have := cln (x := z51) (by omega); omega)]
      have g_f55_5 : (f55 5).toInt = (mfresh 5).toInt := by rw [← E_f55, uo (by have := cln (x := z51) (by omega); omega)]
      have g_f55_6 : (f55 6).toInt = (mfresh 6).toInt := by rw [← E_f55, uo (by have := cln (x := z51) (by omega); omega)]
      have g_f55_7 : (f55 7).toInt = (mfresh 7).toInt := by rw [← E_f55, uo (by have := cln (x := z51) (by omega); omega)]
      have g_f55_8 : (f55 8).toInt = (mfresh 8).toInt := by rw [← E_f55, uo (by have := cln (x := z51) (by omega); omega)]
      have g_f55_9 : (f55 9).toInt = (mfresh 9).toInt := by rw [← E_f55, uo (by have := cln (x := z51) (by omega); omega)]
      exact rt_v FX ((fun k => match k with | 0 => 0 | 1 => u46.1 1 | 2 => u46.1 2 | 3 => u46.1 3 | 4 => u46.1 4 | 5 => u46.1 5 | 6 => u46.1 6 | _ => 0), (fun k => match k with | 0 => f55 | _ => fun _ => 0), (fun _ => fun _ => 0)) rfl ⟨(show 0 ≤ (u46.1 1).toInt ∧ (u46.1 1).toInt ≤ 900 by omega), (show 0 ≤ (u46.1 2).toInt ∧ (u46.1 2).toInt ≤ 900 by omega), (show 0 ≤ (u46.1 3).toInt ∧ (u46.1 3).toInt ≤ 4 by omega), (show 0 ≤ (u46.1 4).toInt ∧ (u46.1 4).toInt ≤ 99999 by omega), (show 0 ≤ (u46.1 5).toInt ∧ (u46.1 5).toInt ≤ 3 by omega), a_f55, (show 5 * mat.toInt - mtoken.toInt ≤ 5 * (u46.1 1).toInt - (u46.1 3).toInt by omega), (show (u46.1 5).toInt = 0 → mfaultKind.toInt = 0 by omega), (show ((f55) 0).toInt = (mfresh 0).toInt ∧ ((f55) 2).toInt = (mfresh 2).toInt from (show (f55 0).toInt = (mfresh 0).toInt ∧ (f55 2).toInt = (mfresh 2).toInt by omega))⟩ (hP.sub [2, 1, 0] rfl) (hD.sub [2, 1, 0] (by decide) rfl) hS (Nat.le_of_ble_eq_true rfl) (Nat.le_of_ble_eq_true rfl) dX12_readTells_78
    · skip
      refine tp_i (v := 0) (Int32.toInt_inj.mp (show (u48.1 0).toInt = (0 : Int32).toInt by rw [show (0 : Int32).toInt = 0 by decide]; omega)) ?_
      refine lv_if_eq (tgt := 78) hx hb dX12_readTells_60 (by decide) (fun _ => ?_) (fun h => absurd h (by decide))
      exact rt_v FX ((fun k => match k with | 0 => 0 | 1 => u46.1 1 | 2 => u46.1 2 | 3 => u46.1 3 | 4 => u46.1 4 | 5 => u46.1 5 | 6 => u46.1 6 | _ => 0), (fun k => match k with | 0 => mfresh | _ => fun _ => 0), (fun _ => fun _ => 0)) rfl ⟨(show 0 ≤ (u46.1 1).toInt ∧ (u46.1 1).toInt ≤ 900 by omega), (show 0 ≤ (u46.1 2).toInt ∧ (u46.1 2).toInt ≤ 900 by omega), (show 0 ≤ (u46.1 3).toInt ∧ (u46.1 3).toInt ≤ 4 by omega), (show 0 ≤ (u46.1 4).toInt ∧ (u46.1 4).toInt ≤ 99999 by omega), (show 0 ≤ (u46.1 5).toInt ∧ (u46.1 5).toInt ≤ 3 by omega), i_mfresh, (show 5 * mat.toInt - mtoken.toInt ≤ 5 * (u46.1 1).toInt - (u46.1 3).toInt by omega), (show (u46.1 5).toInt = 0 → mfaultKind.toInt = 0 by omega), (show ((mfresh) 0).toInt = (mfresh 0).toInt ∧ ((mfresh) 2).toInt = (mfresh 2).toInt from (show (mfresh 0).toInt = (mfresh 0).toInt ∧ (mfresh 2).toInt = (mfresh 2).toInt by omega))⟩ (hP.sub [2, 1, 0] rfl) (hD.sub [2, 1, 0] (by decide) rfl) hS (Nat.le_of_ble_eq_true rfl) (Nat.le_of_ble_eq_true rfl) dX12_readTells_78
