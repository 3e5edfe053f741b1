set_option maxRecDepth 100000 in
set_option maxHeartbeats 4000000 in
theorem k_X12_readTells (l : Launch) (g : GG) (h0 : Nat) (a1 : Nat) (a2 : Nat) (a3 : Nat) (a4 : Nat) (a6 : Nat) (a14 : Nat) (a15 : Nat) (a19 : Nat) (a20 : Nat) (a23 : Nat) (a24 : Nat) (a25 : Nat) (a26 : Nat) (a27 : Nat) (a28 : Nat) (mthrown : Int32) (mtaped : Int32) (msize : Int32) (mat : Int32) (mfrom : Int32) (mtoken : Int32) (mvalue : Int32) (mfaultKind : Int32) (mfaultPlace : Int32) (mgoal : Int32) (mgoalDays : Int32) (mgoalHearer : Int32) (mleastOrder : Int32) (mwordsMany : Int32) (mtape : Nat → Int32) (mfresh : Nat → Int32) (i_mtaped : 0 ≤ mtaped.toInt ∧ mtaped.toInt ≤ 900) (i_msize : 0 ≤ msize.toInt ∧ msize.toInt ≤ 900) (i_mat : 0 ≤ mat.toInt ∧ mat.toInt ≤ 900) (i_mfrom : 0 ≤ mfrom.toInt ∧ mfrom.toInt ≤ 900) (i_mtoken : 0 ≤ mtoken.toInt ∧ mtoken.toInt ≤ 4) (i_mvalue : 0 ≤ mvalue.toInt ∧ mvalue.toInt ≤ 99999) (i_mfaultKind : 0 ≤ mfaultKind.toInt ∧ mfaultKind.toInt ≤ 3) (i_mgoalHearer : 0 ≤ mgoalHearer.toInt ∧ mgoalHearer.toInt ≤ 3) (i_mwordsMany : 0 ≤ mwordsMany.toInt ∧ mwordsMany.toInt ≤ 10) (i_mfresh : wok mfresh) : Ct l g yX12_readTells cX12_readTells 3 none { frames := 3, cells := 0, slots := 0, locals := 69 } [.ref h0] [(h0, .inr (12, [.int mthrown, .ref a1, .ref a2, .ref a3, .ref a4, .int mtaped, .ref a6, .int msize, .int mat, .int mfrom, .int mtoken, .int mvalue, .int mfaultKind, .int mfaultPlace, .ref a14, .ref a15, .int mgoal, .int mgoalDays, .int mgoalHearer, .ref a19, .ref a20, .int mleastOrder, .int mwordsMany, .ref a23, .ref a24, .ref a25, .ref a26, .ref a27, .ref a28])), (a4, .inl (g.2 1, 900, .inl mtape)), (a14, .inl (g.2 0, 225, .inl mfresh))] (S := (Nat → Int32) × (Nat → Nat → Int32) × (Nat → Nat → Int64)) (fun _ => none) (fun u => (0 ≤ (u.1 1).toInt ∧ (u.1 1).toInt ≤ 900) ∧ (0 ≤ (u.1 2).toInt ∧ (u.1 2).toInt ≤ 900) ∧ (0 ≤ (u.1 3).toInt ∧ (u.1 3).toInt ≤ 4) ∧ (0 ≤ (u.1 4).toInt ∧ (u.1 4).toInt ≤ 99999) ∧ (0 ≤ (u.1 5).toInt ∧ (u.1 5).toInt ≤ 3) ∧ (wok (u.2.1 0)) ∧ (5 * mat.toInt - mtoken.toInt ≤ 5 * (u.1 1).toInt - (u.1 3).toInt) ∧ ((u.1 5).toInt = 0 → mfaultKind.toInt = 0) ∧ (((u.2.1 0) 0).toInt = (mfresh 0).toInt ∧ ((u.2.1 0) 2).toInt = (mfresh 2).toInt)) (fun u => [(h0, .inr (12, [.int mthrown, .ref a1, .ref a2, .ref a3, .ref a4, .int mtaped, .ref a6, .int msize, .int (u.1 1), .int (u.1 2), .int (u.1 3), .int (u.1 4), .int (u.1 5), .int (u.1 6), .ref a14, .ref a15, .int mgoal, .int mgoalDays, .int mgoalHearer, .ref a19, .ref a20, .int mleastOrder, .int mwordsMany, .ref a23, .ref a24, .ref a25, .ref a26, .ref a27, .ref a28])), (a4, .inl (g.2 1, 900, .inl mtape)), (a14, .inl (g.2 0, 225, .inl (u.2.1 0)))]) := by
  refine Ct.of (by decide) (Nat.le_of_ble_eq_true rfl) ?_
  intro p e s m below meth c A ls FX hP hD hS hl
  obtain ⟨FC, hr, hlk, hKn, hA, hnm, hZ⟩ := id FX
  have FC : CallFix p m c cX12_readTells 3 s _ BIG RX12 := FC
  obtain ⟨hx, hb, hml, hown, hB⟩ := id FC
  have hl : lv_has ls 3 [(0, .ref h0)] := hl
  have hf5 := wk_5 i_mfresh
  refine lv_aload_n hx hb dX12_readTells_0 rfl (lv_at hl 0 rfl) ?_
  refine lv_iconst (v := 0) hx hb dX12_readTells_1 (by decide) ?_
  refine lv_aload_n hx hb dX12_readTells_2 rfl (lv_at hl 0 rfl) ?_
  refine g_get (C := RX12) (T := TX12) (N := 29) (ci := 12) (v := .ref a14) FC hKn hP i_X12 0 rfl rfl 14 (by decide) b_1132 rfl dX12_readTells_3 ?_
  refine lv_iconst (v := 5) hx hb dX12_readTells_6 (by decide) ?_
  refine va_iald hx hb hKn.1 hP 2 0 rfl rfl (by unfold vp_in; decide) dX12_readTells_7 ?_
  have kc5 : (5 : Int32).toInt = 5 := by decide
  refine lv_topi (fun z1 e_z1 => ?_)
  have t_z1 : 0 ≤ z1.toInt ∧ z1.toInt ≤ 4 := by rw [e_z1]; exact wk_5 i_mfresh
  have q_z1 : z1.toInt = (mfresh 5).toInt := by rw [e_z1]; rfl
  refine lv_iconst (v := 1) hx hb dX12_readTells_8 (by decide) ?_
  refine lv_isub hx hb dX12_readTells_9 ?_
  have kc1 : (1 : Int32).toInt = 1 := by decide
  refine lv_topi (fun z2 e_z2 => ?_)
  have t_z2 : z2.toInt = z1.toInt - ((1 : Int32)).toInt := by rw [e_z2]; exact fb_subI (by omega) (by omega)
  have kc0 : (0 : Int32).toInt = 0 := by decide
  refine call_V (As := [.int 0, .int z2]) (rest := []) (wr := [(a14, .inl (g.2 0, 225, .inl mfresh))]) FC hKn hZ (k_X12_number l g h0 a1 a2 a3 a4 a6 a14 a15 a19 a20 a23 a24 a25 a26 a27 a28 mthrown mtaped msize mat mfrom mtoken mvalue mfaultKind mfaultPlace mgoal mgoalDays mgoalHearer mleastOrder mwordsMany mtape ((0 : Int32)) z2 (by first | assumption | omega) (by first | assumption | omega) (by first | assumption | omega) (by first | assumption | omega) (by first | assumption | omega) (by first | assumption | omega) (by first | assumption | omega) (by first | assumption | omega) (by first | assumption | omega)) m_yX12_number b_1131 (ci := 12) rfl rfl rfl hP hD hS hA [0, 1] [2] rfl (by decide) rfl (by decide) (by decide) rfl hl.1 rfl (Nat.le_of_ble_eq_true rfl) dX12_readTells_10 ⟨(Nat.le_of_ble_eq_true rfl), (Nat.le_of_ble_eq_true rfl)⟩ ⟨(Nat.le_of_ble_eq_true rfl), (Nat.le_of_ble_eq_true rfl)⟩ (fun u3 H locs q4 hP hD hS => ?_)
  obtain ⟨q4_0, q4_1, q4_2, q4_3, q4_4, q4_5, q4_6, q4_7, q4_8, q4_9⟩ := q4
  have hP : va_P g.1 vwCl [(a14, .inl (g.2 0, 225, .inl mfresh)), (h0, .inr (12, [.int mthrown, .ref a1, .ref a2, .ref a3, .ref a4, .int mtaped, .ref a6, .int msize, .int (u3.1 1), .int (u3.1 2), .int (u3.1 3), .int (u3.1 4), .int (u3.1 5), .int (u3.1 6), .ref a14, .ref a15, .int mgoal, .int mgoalDays, .int mgoalHearer, .ref a19, .ref a20, .int mleastOrder, .int mwordsMany, .ref a23, .ref a24, .ref a25, .ref a26, .ref a27, .ref a28])), (a4, .inl (g.2 1, 900, .inl mtape))] H := hP
  have hD : va_D A [(a14, .inl (g.2 0, 225, .inl mfresh)), (h0, .inr (12, [.int mthrown, .ref a1, .ref a2, .ref a3, .ref a4, .int mtaped, .ref a6, .int msize, .int (u3.1 1), .int (u3.1 2), .int (u3.1 3), .int (u3.1 4), .int (u3.1 5), .int (u3.1 6), .ref a14, .ref a15, .int mgoal, .int mgoalDays, .int mgoalHearer, .ref a19, .ref a20, .int mleastOrder, .int mwordsMany, .ref a23, .ref a24, .ref a25, .ref a26, .ref a27, .ref a28])), (a4, .inl (g.2 1, 900, .inl mtape))] := hD
  refine W.eq (g2 := F0 m 13 ls [.int (u3.1 0)]) rfl ?_
  refine lv_istore_n (lv' := [(1, .int (u3.1 0)), (0, .ref h0)]) hx hb dX12_readTells_13 rfl hl (by decide) rfl (fun ls hl => ?_)
  refine lv_aload_n hx hb dX12_readTells_14 rfl (lv_at hl 1 rfl) ?_
  refine call_V (As := []) (rest := []) (wr := [(a14, .inl (g.2 0, 225, .inl mfresh)), (a4, .inl (g.2 1, 900, .inl mtape))]) FC hKn hZ (k_X12_good l g h0 a1 a2 a3 a4 a6 a14 a15 a19 a20 a23 a24 a25 a26 a27 a28 mthrown mtaped msize (u3.1 1) (u3.1 2) (u3.1 3) (u3.1 4) (u3.1 5) (u3.1 6) mgoal mgoalDays mgoalHearer mleastOrder mwordsMany (by first | assumption | omega) (by first | assumption | omega) (by first | assumption | omega) (by first | assumption | omega) (by first | assumption | omega) (by first | assumption | omega) (by first | assumption | omega) (by first | assumption | omega) (by first | assumption | omega)) m_yX12_good b_1117 (ci := 12) rfl rfl rfl hP hD hS hA [1] [0, 2] rfl (by decide) rfl (by decide) (by decide) rfl hl.1 rfl (Nat.le_of_ble_eq_true rfl) dX12_readTells_15 ⟨(Nat.le_of_ble_eq_true rfl), (Nat.le_of_ble_eq_true rfl)⟩ ⟨(Nat.le_of_ble_eq_true rfl), (Nat.le_of_ble_eq_true rfl)⟩ (fun u5 H locs q6 hP hD hS => ?_)
  obtain ⟨q6_0, q6_1⟩ := q6
  have hP : va_P g.1 vwCl [(a14, .inl (g.2 0, 225, .inl mfresh)), (a4, .inl (g.2 1, 900, .inl mtape)), (h0, .inr (12, [.int mthrown, .ref a1, .ref a2, .ref a3, .ref a4, .int mtaped, .ref a6, .int msize, .int (u3.1 1), .int (u3.1 2), .int (u3.1 3), .int (u3.1 4), .int (u3.1 5), .int (u3.1 6), .ref a14, .ref a15, .int mgoal, .int mgoalDays, .int mgoalHearer, .ref a19, .ref a20, .int mleastOrder, .int mwordsMany, .ref a23, .ref a24, .ref a25, .ref a26, .ref a27, .ref a28]))] H := hP
  have hD : va_D A [(a14, .inl (g.2 0, 225, .inl mfresh)), (a4, .inl (g.2 1, 900, .inl mtape)), (h0, .inr (12, [.int mthrown, .ref a1, .ref a2, .ref a3, .ref a4, .int mtaped, .ref a6, .int msize, .int (u3.1 1), .int (u3.1 2), .int (u3.1 3), .int (u3.1 4), .int (u3.1 5), .int (u3.1 6), .ref a14, .ref a15, .int mgoal, .int mgoalDays, .int mgoalHearer, .ref a19, .ref a20, .int mleastOrder, .int mwordsMany, .ref a23, .ref a24, .ref a25, .ref a26, .ref a27, .ref a28]))] := hD
  refine W.eq (g2 := F0 m 18 ls [.int (u5.1 0)]) rfl ?_
  rcases (show (u3.1 5).toInt = 0 ∨ (u3.1 5).toInt ≠ 0 by omega) with c7 | c7
  · skip
    have q4_6g := q4_6 c7
    clear q4_6
    have q4_7g := q4_7 c7
    clear q4_7
    clear q4_8
    have q4_9g := q4_9 c7
    clear q4_9
    refine tp_i (v := 1) (Int32.toInt_inj.mp (show (u5.1 0).toInt = (1 : Int32).toInt by rw [show (1 : Int32).toInt = 1 by decide]; omega)) ?_
    refine lv_if_eq (tgt := 42) hx hb dX12_readTells_18 (by decide) (fun h => absurd h (by decide)) (fun _ => ?_)
    refine lv_aload_n hx hb dX12_readTells_21 rfl (lv_at hl 1 rfl) ?_
    refine g_get (C := RX12) (T := TX12) (N := 29) (ci := 12) (v := .int (u3.1 3)) FC hKn hP i_X12 2 rfl rfl 10 (by decide) b_1114 rfl dX12_readTells_22 ?_
    refine lv_iconst (v := 2) hx hb dX12_readTells_25 (by decide) ?_
    refine lv_icmp_ne (tgt := 42) hx hb dX12_readTells_26 (by decide) (fun c8 => ?_) (fun c8 => ?_)
    · have c8 := k_ne (a := (u3.1 3).toInt) (b := 2) rfl (by decide) c8
      refine lv_aload_n hx hb dX12_readTells_42 rfl (lv_at hl 1 rfl) ?_
      refine lv_iconst (v := 0) hx hb dX12_readTells_43 (by decide) ?_
      refine lv_aload_n hx hb dX12_readTells_44 rfl (lv_at hl 1 rfl) ?_
      refine g_get (C := RX12) (T := TX12) (N := 29) (ci := 12) (v := .ref a14) FC hKn hP i_X12 2 rfl rfl 14 (by decide) b_1132 rfl dX12_readTells_45 ?_
      refine lv_iconst (v := 5) hx hb dX12_readTells_48 (by decide) ?_
      refine va_iald hx hb hKn.1 hP 0 0 rfl rfl (by unfold vp_in; decide) dX12_readTells_49 ?_
      refine tp_i (v := z1) e_z1.symm ?_
      refine lv_iconst (v := 1) hx hb dX12_readTells_50 (by decide) ?_
      refine lv_isub hx hb dX12_readTells_51 ?_
      refine lv_topi (fun z9 e_z9 => ?_)
      have t_z9 : z9.toInt = z1.toInt - ((1 : Int32)).toInt := by rw [e_z9]; exact fb_subI (by omega) (by omega)
      refine call_V (As := [.int 0, .int z9]) (rest := []) (wr := [(a14, .inl (g.2 0, 225, .inl mfresh))]) FC hKn hZ (k_X12_number l g h0 a1 a2 a3 a4 a6 a14 a15 a19 a20 a23 a24 a25 a26 a27 a28 mthrown mtaped msize (u3.1 1) (u3.1 2) (u3.1 3) (u3.1 4) (u3.1 5) (u3.1 6) mgoal mgoalDays mgoalHearer mleastOrder mwordsMany mtape ((0 : Int32)) z9 (by first | assumption | omega) (by first | assumption | omega) (by first | assumption | omega) (by first | assumption | omega) (by first | assumption | omega) (by first | assumption | omega) (by first | assumption | omega) (by first | assumption | omega) (by first | assumption | omega)) m_yX12_number b_1131 (ci := 12) rfl rfl rfl hP hD hS hA [2, 1] [0] rfl (by decide) rfl (by decide) (by decide) rfl hl.1 rfl (Nat.le_of_ble_eq_true rfl) dX12_readTells_52 ⟨(Nat.le_of_ble_eq_true rfl), (Nat.le_of_ble_eq_true rfl)⟩ ⟨(Nat.le_of_ble_eq_true rfl), (Nat.le_of_ble_eq_true rfl)⟩ (fun u10 H locs q11 hP hD hS => ?_)
      obtain ⟨q11_0, q11_1, q11_2, q11_3, q11_4, q11_5, q11_6, q11_7, q11_8, q11_9⟩ := q11
      have hP : va_P g.1 vwCl [(a14, .inl (g.2 0, 225, .inl mfresh)), (h0, .inr (12, [.int mthrown, .ref a1, .ref a2, .ref a3, .ref a4, .int mtaped, .ref a6, .int msize, .int (u10.1 1), .int (u10.1 2), .int (u10.1 3), .int (u10.1 4), .int (u10.1 5), .int (u10.1 6), .ref a14, .ref a15, .int mgoal, .int mgoalDays, .int mgoalHearer, .ref a19, .ref a20, .int mleastOrder, .int mwordsMany, .ref a23, .ref a24, .ref a25, .ref a26, .ref a27, .ref a28])), (a4, .inl (g.2 1, 900, .inl mtape))] H := hP
      have hD : va_D A [(a14, .inl (g.2 0, 225, .inl mfresh)), (h0, .inr (12, [.int mthrown, .ref a1, .ref a2, .ref a3, .ref a4, .int mtaped, .ref a6, .int msize, .int (u10.1 1), .int (u10.1 2), .int (u10.1 3), .int (u10.1 4), .int (u10.1 5), .int (u10.1 6), .ref a14, .ref a15, .int mgoal, .int mgoalDays, .int mgoalHearer, .ref a19, .ref a20, .int mleastOrder, .int mwordsMany, .ref a23, .ref a24, .ref a25, .ref a26, .ref a27, .ref a28])), (a4, .inl (g.2 1, 900, .inl mtape))] := hD
      refine W.eq (g2 := F0 m 55 ls [.int (u10.1 0)]) rfl ?_
      refine lv_istore_n (lv' := [(2, .int (u10.1 0)), (1, .int (u3.1 0)), (0, .ref h0)]) hx hb dX12_readTells_55 rfl hl (by decide) rfl (fun ls hl => ?_)
      refine lv_aload_n hx hb dX12_readTells_56 rfl (lv_at hl 2 rfl) ?_
      refine call_V (As := []) (rest := []) (wr := [(a14, .inl (g.2 0, 225, .inl mfresh)), (a4, .inl (g.2 1, 900, .inl mtape))]) FC hKn hZ (k_X12_good l g h0 a1 a2 a3 a4 a6 a14 a15 a19 a20 a23 a24 a25 a26 a27 a28 mthrown mtaped msize (u10.1 1) (u10.1 2) (u10.1 3) (u10.1 4) (u10.1 5) (u10.1 6) mgoal mgoalDays mgoalHearer mleastOrder mwordsMany (by first | assumption | omega) (by first | assumption | omega) (by first | assumption | omega) (by first | assumption | omega) (by first | assumption | omega) (by first | assumption | omega) (by first | assumption | omega) (by first | assumption | omega) (by first | assumption | omega)) m_yX12_good b_1117 (ci := 12) rfl rfl rfl hP hD hS hA [1] [0, 2] rfl (by decide) rfl (by decide) (by decide) rfl hl.1 rfl (Nat.le_of_ble_eq_true rfl) dX12_readTells_57 ⟨(Nat.le_of_ble_eq_true rfl), (Nat.le_of_ble_eq_true rfl)⟩ ⟨(Nat.le_of_ble_eq_true rfl), (Nat.le_of_ble_eq_true rfl)⟩ (fun u12 H locs q13 hP hD hS => ?_)
      obtain ⟨q13_0, q13_1⟩ := q13
      have hP : va_P g.1 vwCl [(a14, .inl (g.2 0, 225, .inl mfresh)), (a4, .inl (g.2 1, 900, .inl mtape)), (h0, .inr (12, [.int mthrown, .ref a1, .ref a2, .ref a3, .ref a4, .int mtaped, .ref a6, .int msize, .int (u10.1 1), .int (u10.1 2), .int (u10.1 3), .int (u10.1 4), .int (u10.1 5), .int (u10.1 6), .ref a14, .ref a15, .int mgoal, .int mgoalDays, .int mgoalHearer, .ref a19, .ref a20, .int mleastOrder, .int mwordsMany, .ref a23, .ref a24, .ref a25, .ref a26, .ref a27, .ref a28]))] H := hP
      have hD : va_D A [(a14, .inl (g.2 0, 225, .inl mfresh)), (a4, .inl (g.2 1, 900, .inl mtape)), (h0, .inr (12, [.int mthrown, .ref a1, .ref a2, .ref a3, .ref a4, .int mtaped, .ref a6, .int msize, .int (u10.1 1), .int (u10.1 2), .int (u10.1 3), .int (u10.1 4), .int (u10.1 5), .int (u10.1 6), .ref a14, .ref a15, .int mgoal, .int mgoalDays, .int mgoalHearer, .ref a19, .ref a20, .int mleastOrder, .int mwordsMany, .ref a23, .ref a24, .ref a25, .ref a26, .ref a27, .ref a28]))] := hD
      refine W.eq (g2 := F0 m 60 ls [.int (u12.1 0)]) rfl ?_
      rcases (show (u10.1 5).toInt = 0 ∨ (u10.1 5).toInt ≠ 0 by omega) with c14 | c14
      · skip
        have q11_6g := q11_6 c14
        clear q11_6
        have q11_7g := q11_7 c14
        clear q11_7
        clear q11_8
        have q11_9g := q11_9 c14
        clear q11_9
        refine tp_i (v := 1) (Int32.toInt_inj.mp (show (u12.1 0).toInt = (1 : Int32).toInt by rw [show (1 : Int32).toInt = 1 by decide]; omega)) ?_
        refine lv_if_eq (tgt := 78) hx hb dX12_readTells_60 (by decide) (fun h => absurd h (by decide)) (fun _ => ?_)
        refine lv_aload_n hx hb dX12_readTells_63 rfl (lv_at hl 2 rfl) ?_
        refine g_get (C := RX12) (T := TX12) (N := 29) (ci := 12) (v := .ref a14) FC hKn hP i_X12 2 rfl rfl 14 (by decide) b_1132 rfl dX12_readTells_64 ?_
        refine lv_bipush (v := 101) hx hb dX12_readTells_67 (by decide) ?_
        refine lv_iload_n hx hb dX12_readTells_69 rfl (lv_at hl 1 rfl) ?_
        refine lv_iadd hx hb dX12_readTells_70 ?_
        have kc101 : (101 : Int32).toInt = 101 := by decide
        refine lv_topi (fun z15 e_z15 => ?_)
        have t_z15 : z15.toInt = ((101 : Int32)).toInt + (u3.1 0).toInt := by rw [e_z15]; exact fb_addI (by omega) (by omega)
        refine lv_dup2_11 hx hb dX12_readTells_71 rfl rfl ?_
        refine va_iald hx hb hKn.1 hP 0 0 rfl rfl (vp_in_iff.mpr ⟨by omega, by omega⟩) dX12_readTells_72 ?_
        refine lv_topi (fun z16 e_z16 => ?_)
        have q_z16 : z16.toInt = (mfresh z15.toNatClampNeg).toInt := by rw [e_z16]
        refine lv_iconst (v := 1) hx hb dX12_readTells_73 (by decide) ?_
        refine lv_iload_n hx hb dX12_readTells_74 rfl (lv_at hl 0 rfl) ?_
        refine lv_ishl hx hb dX12_readTells_75 ?_
        refine lv_topi (fun z17 e_z17 => ?_)
        refine lv_ior hx hb dX12_readTells_76 ?_
        refine lv_topi (fun z18 e_z18 => ?_)
        refine va_iast hx hb hKn.1 hP hD hS 0 0 rfl rfl (vp_in_iff.mpr ⟨by omega, by omega⟩) dX12_readTells_77 (fun H locs hP hD hS => ?_)
        have hP : va_P g.1 vwCl [(a14, .inl (g.2 0, 225, .inl (upd mfresh (z15.toNatClampNeg) z18))), (a4, .inl (g.2 1, 900, .inl mtape)), (h0, .inr (12, [.int mthrown, .ref a1, .ref a2, .ref a3, .ref a4, .int mtaped, .ref a6, .int msize, .int (u10.1 1), .int (u10.1 2), .int (u10.1 3), .int (u10.1 4), .int (u10.1 5), .int (u10.1 6), .ref a14, .ref a15, .int mgoal, .int mgoalDays, .int mgoalHearer, .ref a19, .ref a20, .int mleastOrder, .int mwordsMany, .ref a23, .ref a24, .ref a25, .ref a26, .ref a27, .ref a28]))] H := hP
        have hD : va_D A [(a14, .inl (g.2 0, 225, .inl (upd mfresh (z15.toNatClampNeg) z18))), (a4, .inl (g.2 1, 900, .inl mtape)), (h0, .inr (12, [.int mthrown, .ref a1, .ref a2, .ref a3, .ref a4, .int mtaped, .ref a6, .int msize, .int (u10.1 1), .int (u10.1 2), .int (u10.1 3), .int (u10.1 4), .int (u10.1 5), .int (u10.1 6), .ref a14, .ref a15, .int mgoal, .int mgoalDays, .int mgoalHearer, .ref a19, .ref a20, .int mleastOrder, .int mwordsMany, .ref a23, .ref a24, .ref a25, .ref a26, .ref a27, .ref a28]))] := hD
        have a_f19 : wok (upd mfresh (z15.toNatClampNeg) z18) := (wx_f i_mfresh (by omega) (by omega))
        refine gn_f (upd mfresh (z15.toNatClampNeg) z18) (fun f19 E_f19 => ?_)
        rw [E_f19] at hP hD a_f19
        have lw_f19 : (11 : Int) ≤ z15.toInt := by (try clear q4_6); (try clear q4_7); (try clear q4_8); (try clear q4_9); (try clear q11_6); (try clear q11_7); (try clear q11_8); (try clear q11_9); omega
        have g_f19_0 : (f19 0).toInt = (mfresh 0).toInt := uklo E_f19 lw_f19 (by decide)
        have g_f19_2 : (f19 2).toInt = (mfresh 2).toInt := uklo E_f19 lw_f19 (by decide)
        have g_f19_5 : (f19 5).toInt = (mfresh 5).toInt := uklo E_f19 lw_f19 (by decide)
        have g_f19_6 : (f19 6).toInt = (mfresh 6).toInt := uklo E_f19 lw_f19 (by decide)
        have g_f19_7 : (f19 7).toInt = (mfresh 7).toInt := uklo E_f19 lw_f19 (by decide)
        have g_f19_8 : (f19 8).toInt = (mfresh 8).toInt := uklo E_f19 lw_f19 (by decide)
        have g_f19_9 : (f19 9).toInt = (mfresh 9).toInt := uklo E_f19 lw_f19 (by decide)
        exact rt_v FX ((fun k => match k with | 0 => 0 | 1 => u10.1 1 | 2 => u10.1 2 | 3 => u10.1 3 | 4 => u10.1 4 | 5 => u10.1 5 | 6 => u10.1 6 | _ => 0), (fun k => match k with | 0 => f19 | _ => fun _ => 0), (fun _ => fun _ => 0)) rfl ⟨(show 0 ≤ (u10.1 1).toInt ∧ (u10.1 1).toInt ≤ 900 by first | assumption | omega), (show 0 ≤ (u10.1 2).toInt ∧ (u10.1 2).toInt ≤ 900 by first | assumption | omega), (show 0 ≤ (u10.1 3).toInt ∧ (u10.1 3).toInt ≤ 4 by first | assumption | omega), (show 0 ≤ (u10.1 4).toInt ∧ (u10.1 4).toInt ≤ 99999 by first | assumption | omega), (show 0 ≤ (u10.1 5).toInt ∧ (u10.1 5).toInt ≤ 3 by first | assumption | omega), a_f19, (show 5 * mat.toInt - mtoken.toInt ≤ 5 * (u10.1 1).toInt - (u10.1 3).toInt from (Int.le_trans (q4_5) q11_5)), (show (u10.1 5).toInt = 0 → mfaultKind.toInt = 0 from (fun h9 => q4_6g)), (show ((f19) 0).toInt = (mfresh 0).toInt ∧ ((f19) 2).toInt = (mfresh 2).toInt from ⟨(g_f19_0.trans rfl), (g_f19_2.trans rfl)⟩)⟩ (hP.sub [2, 1, 0] rfl) (hD.sub [2, 1, 0] (by decide) rfl) hS (Nat.le_of_ble_eq_true rfl) (Nat.le_of_ble_eq_true rfl) dX12_readTells_78
      · skip
        clear q11_6
        clear q11_7
        have q11_8g := q11_8 c14
        clear q11_8
        clear q11_9
        refine tp_i (v := 0) (Int32.toInt_inj.mp (show (u12.1 0).toInt = (0 : Int32).toInt by rw [show (0 : Int32).toInt = 0 by decide]; omega)) ?_
        refine lv_if_eq (tgt := 78) hx hb dX12_readTells_60 (by decide) (fun _ => ?_) (fun h => absurd h (by decide))
        exact rt_v FX ((fun k => match k with | 0 => 0 | 1 => u10.1 1 | 2 => u10.1 2 | 3 => u10.1 3 | 4 => u10.1 4 | 5 => u10.1 5 | 6 => u10.1 6 | _ => 0), (fun k => match k with | 0 => mfresh | _ => fun _ => 0), (fun _ => fun _ => 0)) rfl ⟨(show 0 ≤ (u10.1 1).toInt ∧ (u10.1 1).toInt ≤ 900 by first | assumption | omega), (show 0 ≤ (u10.1 2).toInt ∧ (u10.1 2).toInt ≤ 900 by first | assumption | omega), (show 0 ≤ (u10.1 3).toInt ∧ (u10.1 3).toInt ≤ 4 by first | assumption | omega), (show 0 ≤ (u10.1 4).toInt ∧ (u10.1 4).toInt ≤ 99999 by first | assumption | omega), (show 0 ≤ (u10.1 5).toInt ∧ (u10.1 5).toInt ≤ 3 by first | assumption | omega), i_mfresh, (show 5 * mat.toInt - mtoken.toInt ≤ 5 * (u10.1 1).toInt - (u10.1 3).toInt from (Int.le_trans (q4_5) q11_5)), (show (u10.1 5).toInt = 0 → mfaultKind.toInt = 0 from (fun h9 => (absurd h9 c14))), (show ((mfresh) 0).toInt = (mfresh 0).toInt ∧ ((mfresh) 2).toInt = (mfresh 2).toInt from ⟨rfl, rfl⟩)⟩ (hP.sub [2, 1, 0] rfl) (hD.sub [2, 1, 0] (by decide) rfl) hS (Nat.le_of_ble_eq_true rfl) (Nat.le_of_ble_eq_true rfl) dX12_readTells_78
    · have c8 := k_eq (a := (u3.1 3).toInt) (b := 2) rfl (by decide) c8
      refine lv_aload_n hx hb dX12_readTells_29 rfl (lv_at hl 1 rfl) ?_
      refine g_get (C := RX12) (T := TX12) (N := 29) (ci := 12) (v := .int (u3.1 4)) FC hKn hP i_X12 2 rfl rfl 11 (by decide) b_1115 rfl dX12_readTells_30 ?_
      refine lv_iload_n hx hb dX12_readTells_33 rfl (lv_at hl 0 rfl) ?_
      refine lv_icmp_ne (tgt := 42) hx hb dX12_readTells_34 (by decide) (fun c20 => ?_) (fun c20 => ?_)
      · have c20 := k_ne (a := (u3.1 4).toInt) (b := (u3.1 0).toInt) rfl rfl c20
        refine lv_aload_n hx hb dX12_readTells_42 rfl (lv_at hl 1 rfl) ?_
        refine lv_iconst (v := 0) hx hb dX12_readTells_43 (by decide) ?_
        refine lv_aload_n hx hb dX12_readTells_44 rfl (lv_at hl 1 rfl) ?_
        refine g_get (C := RX12) (T := TX12) (N := 29) (ci := 12) (v := .ref a14) FC hKn hP i_X12 2 rfl rfl 14 (by decide) b_1132 rfl dX12_readTells_45 ?_
        refine lv_iconst (v := 5) hx hb dX12_readTells_48 (by decide) ?_
        refine va_iald hx hb hKn.1 hP 0 0 rfl rfl (by unfold vp_in; decide) dX12_readTells_49 ?_
        refine tp_i (v := z1) e_z1.symm ?_
        refine lv_iconst (v := 1) hx hb dX12_readTells_50 (by decide) ?_
        refine lv_isub hx hb dX12_readTells_51 ?_
        refine lv_topi (fun z21 e_z21 => ?_)
        have t_z21 : z21.toInt = z1.toInt - ((1 : Int32)).toInt := by rw [e_z21]; exact fb_subI (by omega) (by omega)
        refine call_V (As := [.int 0, .int z21]) (rest := []) (wr := [(a14, .inl (g.2 0, 225, .inl mfresh))]) FC hKn hZ (k_X12_number l g h0 a1 a2 a3 a4 a6 a14 a15 a19 a20 a23 a24 a25 a26 a27 a28 mthrown mtaped msize (u3.1 1) (u3.1 2) (u3.1 3) (u3.1 4) (u3.1 5) (u3.1 6) mgoal mgoalDays mgoalHearer mleastOrder mwordsMany mtape ((0 : Int32)) z21 (by first | assumption | omega) (by first | assumption | omega) (by first | assumption | omega) (by first | assumption | omega) (by first | assumption | omega) (by first | assumption | omega) (by first | assumption | omega) (by first | assumption | omega) (by first | assumption | omega)) m_yX12_number b_1131 (ci := 12) rfl rfl rfl hP hD hS hA [2, 1] [0] rfl (by decide) rfl (by decide) (by decide) rfl hl.1 rfl (Nat.le_of_ble_eq_true rfl) dX12_readTells_52 ⟨(Nat.le_of_ble_eq_true rfl), (Nat.le_of_ble_eq_true rfl)⟩ ⟨(Nat.le_of_ble_eq_true rfl), (Nat.le_of_ble_eq_true rfl)⟩ (fun u22 H locs q23 hP hD hS => ?_)
        obtain ⟨q23_0, q23_1, q23_2, q23_3, q23_4, q23_5, q23_6, q23_7, q23_8, q23_9⟩ := q23
        have hP : va_P g.1 vwCl [(a14, .inl (g.2 0, 225, .inl mfresh)), (h0, .inr (12, [.int mthrown, .ref a1, .ref a2, .ref a3, .ref a4, .int mtaped, .ref a6, .int msize, .int (u22.1 1), .int (u22.1 2), .int (u22.1 3), .int (u22.1 4), .int (u22.1 5), .int (u22.1 6), .ref a14, .ref a15, .int mgoal, .int mgoalDays, .int mgoalHearer, .ref a19, .ref a20, .int mleastOrder, .int mwordsMany, .ref a23, .ref a24, .ref a25, .ref a26, .ref a27, .ref a28])), (a4, .inl (g.2 1, 900, .inl mtape))] H := hP
        have hD : va_D A [(a14, .inl (g.2 0, 225, .inl mfresh)), (h0, .inr (12, [.int mthrown, .ref a1, .ref a2, .ref a3, .ref a4, .int mtaped, .ref a6, .int msize, .int (u22.1 1), .int (u22.1 2), .int (u22.1 3), .int (u22.1 4), .int (u22.1 5), .int (u22.1 6), .ref a14, .ref a15, .int mgoal, .int mgoalDays, .int mgoalHearer, .ref a19, .ref a20, .int mleastOrder, .int mwordsMany, .ref a23, .ref a24, .ref a25, .ref a26, .ref a27, .ref a28])), (a4, .inl (g.2 1, 900, .inl mtape))] := hD
        refine W.eq (g2 := F0 m 55 ls [.int (u22.1 0)]) rfl ?_
        refine lv_istore_n (lv' := [(2, .int (u22.1 0)), (1, .int (u3.1 0)), (0, .ref h0)]) hx hb dX12_readTells_55 rfl hl (by decide) rfl (fun ls hl => ?_)
        refine lv_aload_n hx hb dX12_readTells_56 rfl (lv_at hl 2 rfl) ?_
        refine call_V (As := []) (rest := []) (wr := [(a14, .inl (g.2 0, 225, .inl mfresh)), (a4, .inl (g.2 1, 900, .inl mtape))]) FC hKn hZ (k_X12_good l g h0 a1 a2 a3 a4 a6 a14 a15 a19 a20 a23 a24 a25 a26 a27 a28 mthrown mtaped msize (u22.1 1) (u22.1 2) (u22.1 3) (u22.1 4) (u22.1 5) (u22.1 6) mgoal mgoalDays mgoalHearer mleastOrder mwordsMany (by first | assumption | omega) (by first | assumption | omega) (by first | assumption | omega) (by first | assumption | omega) (by first | assumption | omega) (by first | assumption | omega) (by first | assumption | omega) (by first | assumption | omega) (by first | assumption | omega)) m_yX12_good b_1117 (ci := 12) rfl rfl rfl hP hD hS hA [1] [0, 2] rfl (by decide) rfl (by decide) (by decide) rfl hl.1 rfl (Nat.le_of_ble_eq_true rfl) dX12_readTells_57 ⟨(Nat.le_of_ble_eq_true rfl), (Nat.le_of_ble_eq_true rfl)⟩ ⟨(Nat.le_of_ble_eq_true rfl), (Nat.le_of_ble_eq_true rfl)⟩ (fun u24 H locs q25 hP hD hS => ?_)
        obtain ⟨q25_0, q25_1⟩ := q25
        have hP : va_P g.1 vwCl [(a14, .inl (g.2 0, 225, .inl mfresh)), (a4, .inl (g.2 1, 900, .inl mtape)), (h0, .inr (12, [.int mthrown, .ref a1, .ref a2, .ref a3, .ref a4, .int mtaped, .ref a6, .int msize, .int (u22.1 1), .int (u22.1 2), .int (u22.1 3), .int (u22.1 4), .int (u22.1 5), .int (u22.1 6), .ref a14, .ref a15, .int mgoal, .int mgoalDays, .int mgoalHearer, .ref a19, .ref a20, .int mleastOrder, .int mwordsMany, .ref a23, .ref a24, .ref a25, .ref a26, .ref a27, .ref a28]))] H := hP
        have hD : va_D A [(a14, .inl (g.2 0, 225, .inl mfresh)), (a4, .inl (g.2 1, 900, .inl mtape)), (h0, .inr (12, [.int mthrown, .ref a1, .ref a2, .ref a3, .ref a4, .int mtaped, .ref a6, .int msize, .int (u22.1 1), .int (u22.1 2), .int (u22.1 3), .int (u22.1 4), .int (u22.1 5), .int (u22.1 6), .ref a14, .ref a15, .int mgoal, .int mgoalDays, .int mgoalHearer, .ref a19, .ref a20, .int mleastOrder, .int mwordsMany, .ref a23, .ref a24, .ref a25, .ref a26, .ref a27, .ref a28]))] := hD
        refine W.eq (g2 := F0 m 60 ls [.int (u24.1 0)]) rfl ?_
        rcases (show (u22.1 5).toInt = 0 ∨ (u22.1 5).toInt ≠ 0 by omega) with c26 | c26
        · skip
          have q23_6g := q23_6 c26
          clear q23_6
          have q23_7g := q23_7 c26
          clear q23_7
          clear q23_8
          have q23_9g := q23_9 c26
          clear q23_9
          refine tp_i (v := 1) (Int32.toInt_inj.mp (show (u24.1 0).toInt = (1 : Int32).toInt by rw [show (1 : Int32).toInt = 1 by decide]; omega)) ?_
          refine lv_if_eq (tgt := 78) hx hb dX12_readTells_60 (by decide) (fun h => absurd h (by decide)) (fun _ => ?_)
          refine lv_aload_n hx hb dX12_readTells_63 rfl (lv_at hl 2 rfl) ?_
          refine g_get (C := RX12) (T := TX12) (N := 29) (ci := 12) (v := .ref a14) FC hKn hP i_X12 2 rfl rfl 14 (by decide) b_1132 rfl dX12_readTells_64 ?_
          refine lv_bipush (v := 101) hx hb dX12_readTells_67 (by decide) ?_
          refine lv_iload_n hx hb dX12_readTells_69 rfl (lv_at hl 1 rfl) ?_
          refine lv_iadd hx hb dX12_readTells_70 ?_
          have kc101 : (101 : Int32).toInt = 101 := by decide
          refine lv_topi (fun z27 e_z27 => ?_)
          have t_z27 : z27.toInt = ((101 : Int32)).toInt + (u3.1 0).toInt := by rw [e_z27]; exact fb_addI (by omega) (by omega)
          refine lv_dup2_11 hx hb dX12_readTells_71 rfl rfl ?_
          refine va_iald hx hb hKn.1 hP 0 0 rfl rfl (vp_in_iff.mpr ⟨by omega, by omega⟩) dX12_readTells_72 ?_
          refine lv_topi (fun z28 e_z28 => ?_)
          have q_z28 : z28.toInt = (mfresh z27.toNatClampNeg).toInt := by rw [e_z28]
          refine lv_iconst (v := 1) hx hb dX12_readTells_73 (by decide) ?_
          refine lv_iload_n hx hb dX12_readTells_74 rfl (lv_at hl 0 rfl) ?_
          refine lv_ishl hx hb dX12_readTells_75 ?_
          refine lv_topi (fun z29 e_z29 => ?_)
          refine lv_ior hx hb dX12_readTells_76 ?_
          refine lv_topi (fun z30 e_z30 => ?_)
          refine va_iast hx hb hKn.1 hP hD hS 0 0 rfl rfl (vp_in_iff.mpr ⟨by omega, by omega⟩) dX12_readTells_77 (fun H locs hP hD hS => ?_)
          have hP : va_P g.1 vwCl [(a14, .inl (g.2 0, 225, .inl (upd mfresh (z27.toNatClampNeg) z30))), (a4, .inl (g.2 1, 900, .inl mtape)), (h0, .inr (12, [.int mthrown, .ref a1, .ref a2, .ref a3, .ref a4, .int mtaped, .ref a6, .int msize, .int (u22.1 1), .int (u22.1 2), .int (u22.1 3), .int (u22.1 4), .int (u22.1 5), .int (u22.1 6), .ref a14, .ref a15, .int mgoal, .int mgoalDays, .int mgoalHearer, .ref a19, .ref a20, .int mleastOrder, .int mwordsMany, .ref a23, .ref a24, .ref a25, .ref a26, .ref a27, .ref a28]))] H := hP
          have hD : va_D A [(a14, .inl (g.2 0, 225, .inl (upd mfresh (z27.toNatClampNeg) z30))), (a4, .inl (g.2 1, 900, .inl mtape)), (h0, .inr (12, [.int mthrown, .ref a1, .ref a2, .ref a3, .ref a4, .int mtaped, .ref a6, .int msize, .int (u22.1 1), .int (u22.1 2), .int (u22.1 3), .int (u22.1 4), .int (u22.1 5), .int (u22.1 6), .ref a14, .ref a15, .int mgoal, .int mgoalDays, .int mgoalHearer, .ref a19, .ref a20, .int mleastOrder, .int mwordsMany, .ref a23, .ref a24, .ref a25, .ref a26, .ref a27, .ref a28]))] := hD
          have a_f31 : wok (upd mfresh (z27.toNatClampNeg) z30) := (wx_f i_mfresh (by omega) (by omega))
          refine gn_f (upd mfresh (z27.toNatClampNeg) z30) (fun f31 E_f31 => ?_)
          rw [E_f31] at hP hD a_f31
          have lw_f31 : (11 : Int) ≤ z27.toInt := by (try clear q4_6); (try clear q4_7); (try clear q4_8); (try clear q4_9); (try clear q23_6); (try clear q23_7); (try clear q23_8); (try clear q23_9); omega
          have g_f31_0 : (f31 0).toInt = (mfresh 0).toInt := uklo E_f31 lw_f31 (by decide)
          have g_f31_2 : (f31 2).toInt = (mfresh 2).toInt := uklo E_f31 lw_f31 (by decide)
          have g_f31_5 : (f31 5).toInt = (mfresh 5).toInt := uklo E_f31 lw_f31 (by decide)
          have g_f31_6 : (f31 6).toInt = (mfresh 6).toInt := uklo E_f31 lw_f31 (by decide)
          have g_f31_7 : (f31 7).toInt = (mfresh 7).toInt := uklo E_f31 lw_f31 (by decide)
          have g_f31_8 : (f31 8).toInt = (mfresh 8).toInt := uklo E_f31 lw_f31 (by decide)
          have g_f31_9 : (f31 9).toInt = (mfresh 9).toInt := uklo E_f31 lw_f31 (by decide)
          exact rt_v FX ((fun k => match k with | 0 => 0 | 1 => u22.1 1 | 2 => u22.1 2 | 3 => u22.1 3 | 4 => u22.1 4 | 5 => u22.1 5 | 6 => u22.1 6 | _ => 0), (fun k => match k with | 0 => f31 | _ => fun _ => 0), (fun _ => fun _ => 0)) rfl ⟨(show 0 ≤ (u22.1 1).toInt ∧ (u22.1 1).toInt ≤ 900 by first | assumption | omega), (show 0 ≤ (u22.1 2).toInt ∧ (u22.1 2).toInt ≤ 900 by first | assumption | omega), (show 0 ≤ (u22.1 3).toInt ∧ (u22.1 3).toInt ≤ 4 by first | assumption | omega), (show 0 ≤ (u22.1 4).toInt ∧ (u22.1 4).toInt ≤ 99999 by first | assumption | omega), (show 0 ≤ (u22.1 5).toInt ∧ (u22.1 5).toInt ≤ 3 by first | assumption | omega), a_f31, (show 5 * mat.toInt - mtoken.toInt ≤ 5 * (u22.1 1).toInt - (u22.1 3).toInt from (Int.le_trans (q4_5) q23_5)), (show (u22.1 5).toInt = 0 → mfaultKind.toInt = 0 from (fun h9 => q4_6g)), (show ((f31) 0).toInt = (mfresh 0).toInt ∧ ((f31) 2).toInt = (mfresh 2).toInt from ⟨(g_f31_0.trans rfl), (g_f31_2.trans rfl)⟩)⟩ (hP.sub [2, 1, 0] rfl) (hD.sub [2, 1, 0] (by decide) rfl) hS (Nat.le_of_ble_eq_true rfl) (Nat.le_of_ble_eq_true rfl) dX12_readTells_78
        · skip
          clear q23_6
          clear q23_7
          have q23_8g := q23_8 c26
          clear q23_8
          clear q23_9
          refine tp_i (v := 0) (Int32.toInt_inj.mp (show (u24.1 0).toInt = (0 : Int32).toInt by rw [show (0 : Int32).toInt = 0 by decide]; omega)) ?_
          refine lv_if_eq (tgt := 78) hx hb dX12_readTells_60 (by decide) (fun _ => ?_) (fun h => absurd h (by decide))
          exact rt_v FX ((fun k => match k with | 0 => 0 | 1 => u22.1 1 | 2 => u22.1 2 | 3 => u22.1 3 | 4 => u22.1 4 | 5 => u22.1 5 | 6 => u22.1 6 | _ => 0), (fun k => match k with | 0 => mfresh | _ => fun _ => 0), (fun _ => fun _ => 0)) rfl ⟨(show 0 ≤ (u22.1 1).toInt ∧ (u22.1 1).toInt ≤ 900 by first | assumption | omega), (show 0 ≤ (u22.1 2).toInt ∧ (u22.1 2).toInt ≤ 900 by first | assumption | omega), (show 0 ≤ (u22.1 3).toInt ∧ (u22.1 3).toInt ≤ 4 by first | assumption | omega), (show 0 ≤ (u22.1 4).toInt ∧ (u22.1 4).toInt ≤ 99999 by first | assumption | omega), (show 0 ≤ (u22.1 5).toInt ∧ (u22.1 5).toInt ≤ 3 by first | assumption | omega), i_mfresh, (show 5 * mat.toInt - mtoken.toInt ≤ 5 * (u22.1 1).toInt - (u22.1 3).toInt from (Int.le_trans (q4_5) q23_5)), (show (u22.1 5).toInt = 0 → mfaultKind.toInt = 0 from (fun h9 => (absurd h9 c26))), (show ((mfresh) 0).toInt = (mfresh 0).toInt ∧ ((mfresh) 2).toInt = (mfresh 2).toInt from ⟨rfl, rfl⟩)⟩ (hP.sub [2, 1, 0] rfl) (hD.sub [2, 1, 0] (by decide) rfl) hS (Nat.le_of_ble_eq_true rfl) (Nat.le_of_ble_eq_true rfl) dX12_readTells_78
      · have c20 := k_eq (a := (u3.1 4).toInt) (b := (u3.1 0).toInt) rfl rfl c20
        refine lv_aload_n hx hb dX12_readTells_37 rfl (lv_at hl 1 rfl) ?_
        refine lv_iconst (v := 2) hx hb dX12_readTells_38 (by decide) ?_
        have kc2 : (2 : Int32).toInt = 2 := by decide
        refine call_V (As := [.int 2]) (rest := []) (wr := [(a14, .inl (g.2 0, 225, .inl mfresh)), (a4, .inl (g.2 1, 900, .inl mtape))]) FC hKn hZ (k_X12_errs l g h0 a1 a2 a3 a4 a6 a14 a15 a19 a20 a23 a24 a25 a26 a27 a28 mthrown mtaped msize (u3.1 1) (u3.1 2) (u3.1 3) (u3.1 4) (u3.1 5) (u3.1 6) mgoal mgoalDays mgoalHearer mleastOrder mwordsMany ((2 : Int32)) (by first | assumption | omega) (by first | assumption | omega) (by first | assumption | omega) (by first | assumption | omega) (by first | assumption | omega) (by first | assumption | omega) (by first | assumption | omega) (by first | assumption | omega) (by first | assumption | omega) (by first | assumption | omega)) m_yX12_errs b_1129 (ci := 12) rfl rfl rfl hP hD hS hA [2] [0, 1] rfl (by decide) rfl (by decide) (by decide) rfl hl.1 rfl (Nat.le_of_ble_eq_true rfl) dX12_readTells_39 ⟨(Nat.le_of_ble_eq_true rfl), (Nat.le_of_ble_eq_true rfl)⟩ ⟨(Nat.le_of_ble_eq_true rfl), (Nat.le_of_ble_eq_true rfl)⟩ (fun u32 H locs q33 hP hD hS => ?_)
        have q33_0 : 1 ≤ (u32.1 1).toInt ∧ (u32.1 1).toInt ≤ 3 := q33
        have hP : va_P g.1 vwCl [(a14, .inl (g.2 0, 225, .inl mfresh)), (a4, .inl (g.2 1, 900, .inl mtape)), (h0, .inr (12, [.int mthrown, .ref a1, .ref a2, .ref a3, .ref a4, .int mtaped, .ref a6, .int msize, .int (u3.1 1), .int (u3.1 2), .int (u3.1 3), .int (u3.1 4), .int (u32.1 1), .int (u32.1 2), .ref a14, .ref a15, .int mgoal, .int mgoalDays, .int mgoalHearer, .ref a19, .ref a20, .int mleastOrder, .int mwordsMany, .ref a23, .ref a24, .ref a25, .ref a26, .ref a27, .ref a28]))] H := hP
        have hD : va_D A [(a14, .inl (g.2 0, 225, .inl mfresh)), (a4, .inl (g.2 1, 900, .inl mtape)), (h0, .inr (12, [.int mthrown, .ref a1, .ref a2, .ref a3, .ref a4, .int mtaped, .ref a6, .int msize, .int (u3.1 1), .int (u3.1 2), .int (u3.1 3), .int (u3.1 4), .int (u32.1 1), .int (u32.1 2), .ref a14, .ref a15, .int mgoal, .int mgoalDays, .int mgoalHearer, .ref a19, .ref a20, .int mleastOrder, .int mwordsMany, .ref a23, .ref a24, .ref a25, .ref a26, .ref a27, .ref a28]))] := hD
        refine W.eq (g2 := F0 m 42 ls []) rfl ?_
        refine lv_aload_n hx hb dX12_readTells_42 rfl (lv_at hl 1 rfl) ?_
        refine lv_iconst (v := 0) hx hb dX12_readTells_43 (by decide) ?_
        refine lv_aload_n hx hb dX12_readTells_44 rfl (lv_at hl 1 rfl) ?_
        refine g_get (C := RX12) (T := TX12) (N := 29) (ci := 12) (v := .ref a14) FC hKn hP i_X12 2 rfl rfl 14 (by decide) b_1132 rfl dX12_readTells_45 ?_
        refine lv_iconst (v := 5) hx hb dX12_readTells_48 (by decide) ?_
        refine va_iald hx hb hKn.1 hP 0 0 rfl rfl (by unfold vp_in; decide) dX12_readTells_49 ?_
        refine tp_i (v := z1) e_z1.symm ?_
        refine lv_iconst (v := 1) hx hb dX12_readTells_50 (by decide) ?_
        refine lv_isub hx hb dX12_readTells_51 ?_
        refine lv_topi (fun z34 e_z34 => ?_)
        have t_z34 : z34.toInt = z1.toInt - ((1 : Int32)).toInt := by rw [e_z34]; exact fb_subI (by omega) (by omega)
        refine call_V (As := [.int 0, .int z34]) (rest := []) (wr := [(a14, .inl (g.2 0, 225, .inl mfresh))]) FC hKn hZ (k_X12_number l g h0 a1 a2 a3 a4 a6 a14 a15 a19 a20 a23 a24 a25 a26 a27 a28 mthrown mtaped msize (u3.1 1) (u3.1 2) (u3.1 3) (u3.1 4) (u32.1 1) (u32.1 2) mgoal mgoalDays mgoalHearer mleastOrder mwordsMany mtape ((0 : Int32)) z34 (by first | assumption | omega) (by first | assumption | omega) (by first | assumption | omega) (by first | assumption | omega) (by first | assumption | omega) (by first | assumption | omega) (by first | assumption | omega) (by first | assumption | omega) (by first | assumption | omega)) m_yX12_number b_1131 (ci := 12) rfl rfl rfl hP hD hS hA [2, 1] [0] rfl (by decide) rfl (by decide) (by decide) rfl hl.1 rfl (Nat.le_of_ble_eq_true rfl) dX12_readTells_52 ⟨(Nat.le_of_ble_eq_true rfl), (Nat.le_of_ble_eq_true rfl)⟩ ⟨(Nat.le_of_ble_eq_true rfl), (Nat.le_of_ble_eq_true rfl)⟩ (fun u35 H locs q36 hP hD hS => ?_)
        obtain ⟨q36_0, q36_1, q36_2, q36_3, q36_4, q36_5, q36_6, q36_7, q36_8, q36_9⟩ := q36
        have hP : va_P g.1 vwCl [(a14, .inl (g.2 0, 225, .inl mfresh)), (h0, .inr (12, [.int mthrown, .ref a1, .ref a2, .ref a3, .ref a4, .int mtaped, .ref a6, .int msize, .int (u35.1 1), .int (u35.1 2), .int (u35.1 3), .int (u35.1 4), .int (u35.1 5), .int (u35.1 6), .ref a14, .ref a15, .int mgoal, .int mgoalDays, .int mgoalHearer, .ref a19, .ref a20, .int mleastOrder, .int mwordsMany, .ref a23, .ref a24, .ref a25, .ref a26, .ref a27, .ref a28])), (a4, .inl (g.2 1, 900, .inl mtape))] H := hP
        have hD : va_D A [(a14, .inl (g.2 0, 225, .inl mfresh)), (h0, .inr (12, [.int mthrown, .ref a1, .ref a2, .ref a3, .ref a4, .int mtaped, .ref a6, .int msize, .int (u35.1 1), .int (u35.1 2), .int (u35.1 3), .int (u35.1 4), .int (u35.1 5), .int (u35.1 6), .ref a14, .ref a15, .int mgoal, .int mgoalDays, .int mgoalHearer, .ref a19, .ref a20, .int mleastOrder, .int mwordsMany, .ref a23, .ref a24, .ref a25, .ref a26, .ref a27, .ref a28])), (a4, .inl (g.2 1, 900, .inl mtape))] := hD
        refine W.eq (g2 := F0 m 55 ls [.int (u35.1 0)]) rfl ?_
        refine lv_istore_n (lv' := [(2, .int (u35.1 0)), (1, .int (u3.1 0)), (0, .ref h0)]) hx hb dX12_readTells_55 rfl hl (by decide) rfl (fun ls hl => ?_)
        refine lv_aload_n hx hb dX12_readTells_56 rfl (lv_at hl 2 rfl) ?_
        refine call_V (As := []) (rest := []) (wr := [(a14, .inl (g.2 0, 225, .inl mfresh)), (a4, .inl (g.2 1, 900, .inl mtape))]) FC hKn hZ (k_X12_good l g h0 a1 a2 a3 a4 a6 a14 a15 a19 a20 a23 a24 a25 a26 a27 a28 mthrown mtaped msize (u35.1 1) (u35.1 2) (u35.1 3) (u35.1 4) (u35.1 5) (u35.1 6) mgoal mgoalDays mgoalHearer mleastOrder mwordsMany (by first | assumption | omega) (by first | assumption | omega) (by first | assumption | omega) (by first | assumption | omega) (by first | assumption | omega) (by first | assumption | omega) (by first | assumption | omega) (by first | assumption | omega) (by first | assumption | omega)) m_yX12_good b_1117 (ci := 12) rfl rfl rfl hP hD hS hA [1] [0, 2] rfl (by decide) rfl (by decide) (by decide) rfl hl.1 rfl (Nat.le_of_ble_eq_true rfl) dX12_readTells_57 ⟨(Nat.le_of_ble_eq_true rfl), (Nat.le_of_ble_eq_true rfl)⟩ ⟨(Nat.le_of_ble_eq_true rfl), (Nat.le_of_ble_eq_true rfl)⟩ (fun u37 H locs q38 hP hD hS => ?_)
        obtain ⟨q38_0, q38_1⟩ := q38
        have hP : va_P g.1 vwCl [(a14, .inl (g.2 0, 225, .inl mfresh)), (a4, .inl (g.2 1, 900, .inl mtape)), (h0, .inr (12, [.int mthrown, .ref a1, .ref a2, .ref a3, .ref a4, .int mtaped, .ref a6, .int msize, .int (u35.1 1), .int (u35.1 2), .int (u35.1 3), .int (u35.1 4), .int (u35.1 5), .int (u35.1 6), .ref a14, .ref a15, .int mgoal, .int mgoalDays, .int mgoalHearer, .ref a19, .ref a20, .int mleastOrder, .int mwordsMany, .ref a23, .ref a24, .ref a25, .ref a26, .ref a27, .ref a28]))] H := hP
        have hD : va_D A [(a14, .inl (g.2 0, 225, .inl mfresh)), (a4, .inl (g.2 1, 900, .inl mtape)), (h0, .inr (12, [.int mthrown, .ref a1, .ref a2, .ref a3, .ref a4, .int mtaped, .ref a6, .int msize, .int (u35.1 1), .int (u35.1 2), .int (u35.1 3), .int (u35.1 4), .int (u35.1 5), .int (u35.1 6), .ref a14, .ref a15, .int mgoal, .int mgoalDays, .int mgoalHearer, .ref a19, .ref a20, .int mleastOrder, .int mwordsMany, .ref a23, .ref a24, .ref a25, .ref a26, .ref a27, .ref a28]))] := hD
        refine W.eq (g2 := F0 m 60 ls [.int (u37.1 0)]) rfl ?_
        rcases (show (u35.1 5).toInt = 0 ∨ (u35.1 5).toInt ≠ 0 by omega) with c39 | c39
        · skip
          have q36_6g := q36_6 c39
          clear q36_6
          have q36_7g := q36_7 c39
          clear q36_7
          clear q36_8
          have q36_9g := q36_9 c39
          clear q36_9
          refine tp_i (v := 1) (Int32.toInt_inj.mp (show (u37.1 0).toInt = (1 : Int32).toInt by rw [show (1 : Int32).toInt = 1 by decide]; omega)) ?_
          refine lv_if_eq (tgt := 78) hx hb dX12_readTells_60 (by decide) (fun h => absurd h (by decide)) (fun _ => ?_)
          refine lv_aload_n hx hb dX12_readTells_63 rfl (lv_at hl 2 rfl) ?_
          refine g_get (C := RX12) (T := TX12) (N := 29) (ci := 12) (v := .ref a14) FC hKn hP i_X12 2 rfl rfl 14 (by decide) b_1132 rfl dX12_readTells_64 ?_
          refine lv_bipush (v := 101) hx hb dX12_readTells_67 (by decide) ?_
          refine lv_iload_n hx hb dX12_readTells_69 rfl (lv_at hl 1 rfl) ?_
          refine lv_iadd hx hb dX12_readTells_70 ?_
          have kc101 : (101 : Int32).toInt = 101 := by decide
          refine lv_topi (fun z40 e_z40 => ?_)
          have t_z40 : z40.toInt = ((101 : Int32)).toInt + (u3.1 0).toInt := by rw [e_z40]; exact fb_addI (by omega) (by omega)
          refine lv_dup2_11 hx hb dX12_readTells_71 rfl rfl ?_
          refine va_iald hx hb hKn.1 hP 0 0 rfl rfl (vp_in_iff.mpr ⟨by omega, by omega⟩) dX12_readTells_72 ?_
          refine lv_topi (fun z41 e_z41 => ?_)
          have q_z41 : z41.toInt = (mfresh z40.toNatClampNeg).toInt := by rw [e_z41]
          refine lv_iconst (v := 1) hx hb dX12_readTells_73 (by decide) ?_
          refine lv_iload_n hx hb dX12_readTells_74 rfl (lv_at hl 0 rfl) ?_
          refine lv_ishl hx hb dX12_readTells_75 ?_
          refine lv_topi (fun z42 e_z42 => ?_)
          refine lv_ior hx hb dX12_readTells_76 ?_
          refine lv_topi (fun z43 e_z43 => ?_)
          refine va_iast hx hb hKn.1 hP hD hS 0 0 rfl rfl (vp_in_iff.mpr ⟨by omega, by omega⟩) dX12_readTells_77 (fun H locs hP hD hS => ?_)
          have hP : va_P g.1 vwCl [(a14, .inl (g.2 0, 225, .inl (upd mfresh (z40.toNatClampNeg) z43))), (a4, .inl (g.2 1, 900, .inl mtape)), (h0, .inr (12, [.int mthrown, .ref a1, .ref a2, .ref a3, .ref a4, .int mtaped, .ref a6, .int msize, .int (u35.1 1), .int (u35.1 2), .int (u35.1 3), .int (u35.1 4), .int (u35.1 5), .int (u35.1 6), .ref a14, .ref a15, .int mgoal, .int mgoalDays, .int mgoalHearer, .ref a19, .ref a20, .int mleastOrder, .int mwordsMany, .ref a23, .ref a24, .ref a25, .ref a26, .ref a27, .ref a28]))] H := hP
          have hD : va_D A [(a14, .inl (g.2 0, 225, .inl (upd mfresh (z40.toNatClampNeg) z43))), (a4, .inl (g.2 1, 900, .inl mtape)), (h0, .inr (12, [.int mthrown, .ref a1, .ref a2, .ref a3, .ref a4, .int mtaped, .ref a6, .int msize, .int (u35.1 1), .int (u35.1 2), .int (u35.1 3), .int (u35.1 4), .int (u35.1 5), .int (u35.1 6), .ref a14, .ref a15, .int mgoal, .int mgoalDays, .int mgoalHearer, .ref a19, .ref a20, .int mleastOrder, .int mwordsMany, .ref a23, .ref a24, .ref a25, .ref a26, .ref a27, .ref a28]))] := hD
          have a_f44 : wok (upd mfresh (z40.toNatClampNeg) z43) := (wx_f i_mfresh (by omega) (by omega))
          refine gn_f (upd mfresh (z40.toNatClampNeg) z43) (fun f44 E_f44 => ?_)
          rw [E_f44] at hP hD a_f44
          have lw_f44 : (11 : Int) ≤ z40.toInt := by (try clear q4_6); (try clear q4_7); (try clear q4_8); (try clear q4_9); (try clear q36_6); (try clear q36_7); (try clear q36_8); (try clear q36_9); omega
          have g_f44_0 : (f44 0).toInt = (mfresh 0).toInt := uklo E_f44 lw_f44 (by decide)
          have g_f44_2 : (f44 2).toInt = (mfresh 2).toInt := uklo E_f44 lw_f44 (by decide)
          have g_f44_5 : (f44 5).toInt = (mfresh 5).toInt := uklo E_f44 lw_f44 (by decide)
          have g_f44_6 : (f44 6).toInt = (mfresh 6).toInt := uklo E_f44 lw_f44 (by decide)
          have g_f44_7 : (f44 7).toInt = (mfresh 7).toInt := uklo E_f44 lw_f44 (by decide)
          have g_f44_8 : (f44 8).toInt = (mfresh 8).toInt := uklo E_f44 lw_f44 (by decide)
          have g_f44_9 : (f44 9).toInt = (mfresh 9).toInt := uklo E_f44 lw_f44 (by decide)
          exact rt_v FX ((fun k => match k with | 0 => 0 | 1 => u35.1 1 | 2 => u35.1 2 | 3 => u35.1 3 | 4 => u35.1 4 | 5 => u35.1 5 | 6 => u35.1 6 | _ => 0), (fun k => match k with | 0 => f44 | _ => fun _ => 0), (fun _ => fun _ => 0)) rfl ⟨(show 0 ≤ (u35.1 1).toInt ∧ (u35.1 1).toInt ≤ 900 by first | assumption | omega), (show 0 ≤ (u35.1 2).toInt ∧ (u35.1 2).toInt ≤ 900 by first | assumption | omega), (show 0 ≤ (u35.1 3).toInt ∧ (u35.1 3).toInt ≤ 4 by first | assumption | omega), (show 0 ≤ (u35.1 4).toInt ∧ (u35.1 4).toInt ≤ 99999 by first | assumption | omega), (show 0 ≤ (u35.1 5).toInt ∧ (u35.1 5).toInt ≤ 3 by first | assumption | omega), a_f44, (show 5 * mat.toInt - mtoken.toInt ≤ 5 * (u35.1 1).toInt - (u35.1 3).toInt from (Int.le_trans (q4_5) q36_5)), (show (u35.1 5).toInt = 0 → mfaultKind.toInt = 0 from (fun h9 => (absurd q36_6g (by omega)))), (show ((f44) 0).toInt = (mfresh 0).toInt ∧ ((f44) 2).toInt = (mfresh 2).toInt from ⟨(g_f44_0.trans rfl), (g_f44_2.trans rfl)⟩)⟩ (hP.sub [2, 1, 0] rfl) (hD.sub [2, 1, 0] (by decide) rfl) hS (Nat.le_of_ble_eq_true rfl) (Nat.le_of_ble_eq_true rfl) dX12_readTells_78
        · skip
          clear q36_6
          clear q36_7
          have q36_8g := q36_8 c39
          clear q36_8
          clear q36_9
          refine tp_i (v := 0) (Int32.toInt_inj.mp (show (u37.1 0).toInt = (0 : Int32).toInt by rw [show (0 : Int32).toInt = 0 by decide]; omega)) ?_
          refine lv_if_eq (tgt := 78) hx hb dX12_readTells_60 (by decide) (fun _ => ?_) (fun h => absurd h (by decide))
          exact rt_v FX ((fun k => match k with | 0 => 0 | 1 => u35.1 1 | 2 => u35.1 2 | 3 => u35.1 3 | 4 => u35.1 4 | 5 => u35.1 5 | 6 => u35.1 6 | _ => 0), (fun k => match k with | 0 => mfresh | _ => fun _ => 0), (fun _ => fun _ => 0)) rfl ⟨(show 0 ≤ (u35.1 1).toInt ∧ (u35.1 1).toInt ≤ 900 by first | assumption | omega), (show 0 ≤ (u35.1 2).toInt ∧ (u35.1 2).toInt ≤ 900 by first | assumption | omega), (show 0 ≤ (u35.1 3).toInt ∧ (u35.1 3).toInt ≤ 4 by first | assumption | omega), (show 0 ≤ (u35.1 4).toInt ∧ (u35.1 4).toInt ≤ 99999 by first | assumption | omega), (show 0 ≤ (u35.1 5).toInt ∧ (u35.1 5).toInt ≤ 3 by first | assumption | omega), i_mfresh, (show 5 * mat.toInt - mtoken.toInt ≤ 5 * (u35.1 1).toInt - (u35.1 3).toInt from (Int.le_trans (q4_5) q36_5)), (show (u35.1 5).toInt = 0 → mfaultKind.toInt = 0 from (fun h9 => (absurd h9 c39))), (show ((mfresh) 0).toInt = (mfresh 0).toInt ∧ ((mfresh) 2).toInt = (mfresh 2).toInt from ⟨rfl, rfl⟩)⟩ (hP.sub [2, 1, 0] rfl) (hD.sub [2, 1, 0] (by decide) rfl) hS (Nat.le_of_ble_eq_true rfl) (Nat.le_of_ble_eq_true rfl) dX12_readTells_78
  · skip
    clear q4_6
    clear q4_7
    have q4_8g := q4_8 c7
    clear q4_8
    clear q4_9
    refine tp_i (v := 0) (Int32.toInt_inj.mp (show (u5.1 0).toInt = (0 : Int32).toInt by rw [show (0 : Int32).toInt = 0 by decide]; omega)) ?_
    refine lv_if_eq (tgt := 42) hx hb dX12_readTells_18 (by decide) (fun _ => ?_) (fun h => absurd h (by decide))
    refine lv_aload_n hx hb dX12_readTells_42 rfl (lv_at hl 1 rfl) ?_
    refine lv_iconst (v := 0) hx hb dX12_readTells_43 (by decide) ?_
    refine lv_aload_n hx hb dX12_readTells_44 rfl (lv_at hl 1 rfl) ?_
    refine g_get (C := RX12) (T := TX12) (N := 29) (ci := 12) (v := .ref a14) FC hKn hP i_X12 2 rfl rfl 14 (by decide) b_1132 rfl dX12_readTells_45 ?_
    refine lv_iconst (v := 5) hx hb dX12_readTells_48 (by decide) ?_
    refine va_iald hx hb hKn.1 hP 0 0 rfl rfl (by unfold vp_in; decide) dX12_readTells_49 ?_
    refine tp_i (v := z1) e_z1.symm ?_
    refine lv_iconst (v := 1) hx hb dX12_readTells_50 (by decide) ?_
    refine lv_isub hx hb dX12_readTells_51 ?_
    refine lv_topi (fun z45 e_z45 => ?_)
    have t_z45 : z45.toInt = z1.toInt - ((1 : Int32)).toInt := by rw [e_z45]; exact fb_subI (by omega) (by omega)
    refine call_V (As := [.int 0, .int z45]) (rest := []) (wr := [(a14, .inl (g.2 0, 225, .inl mfresh))]) FC hKn hZ (k_X12_number l g h0 a1 a2 a3 a4 a6 a14 a15 a19 a20 a23 a24 a25 a26 a27 a28 mthrown mtaped msize (u3.1 1) (u3.1 2) (u3.1 3) (u3.1 4) (u3.1 5) (u3.1 6) mgoal mgoalDays mgoalHearer mleastOrder mwordsMany mtape ((0 : Int32)) z45 (by first | assumption | omega) (by first | assumption | omega) (by first | assumption | omega) (by first | assumption | omega) (by first | assumption | omega) (by first | assumption | omega) (by first | assumption | omega) (by first | assumption | omega) (by first | assumption | omega)) m_yX12_number b_1131 (ci := 12) rfl rfl rfl hP hD hS hA [2, 1] [0] rfl (by decide) rfl (by decide) (by decide) rfl hl.1 rfl (Nat.le_of_ble_eq_true rfl) dX12_readTells_52 ⟨(Nat.le_of_ble_eq_true rfl), (Nat.le_of_ble_eq_true rfl)⟩ ⟨(Nat.le_of_ble_eq_true rfl), (Nat.le_of_ble_eq_true rfl)⟩ (fun u46 H locs q47 hP hD hS => ?_)
    obtain ⟨q47_0, q47_1, q47_2, q47_3, q47_4, q47_5, q47_6, q47_7, q47_8, q47_9⟩ := q47
    have hP : va_P g.1 vwCl [(a14, .inl (g.2 0, 225, .inl mfresh)), (h0, .inr (12, [.int mthrown, .ref a1, .ref a2, .ref a3, .ref a4, .int mtaped, .ref a6, .int msize, .int (u46.1 1), .int (u46.1 2), .int (u46.1 3), .int (u46.1 4), .int (u46.1 5), .int (u46.1 6), .ref a14, .ref a15, .int mgoal, .int mgoalDays, .int mgoalHearer, .ref a19, .ref a20, .int mleastOrder, .int mwordsMany, .ref a23, .ref a24, .ref a25, .ref a26, .ref a27, .ref a28])), (a4, .inl (g.2 1, 900, .inl mtape))] H := hP
    have hD : va_D A [(a14, .inl (g.2 0, 225, .inl mfresh)), (h0, .inr (12, [.int mthrown, .ref a1, .ref a2, .ref a3, .ref a4, .int mtaped, .ref a6, .int msize, .int (u46.1 1), .int (u46.1 2), .int (u46.1 3), .int (u46.1 4), .int (u46.1 5), .int (u46.1 6), .ref a14, .ref a15, .int mgoal, .int mgoalDays, .int mgoalHearer, .ref a19, .ref a20, .int mleastOrder, .int mwordsMany, .ref a23, .ref a24, .ref a25, .ref a26, .ref a27, .ref a28])), (a4, .inl (g.2 1, 900, .inl mtape))] := hD
    refine W.eq (g2 := F0 m 55 ls [.int (u46.1 0)]) rfl ?_
    refine lv_istore_n (lv' := [(2, .int (u46.1 0)), (1, .int (u3.1 0)), (0, .ref h0)]) hx hb dX12_readTells_55 rfl hl (by decide) rfl (fun ls hl => ?_)
    refine lv_aload_n hx hb dX12_readTells_56 rfl (lv_at hl 2 rfl) ?_
    refine call_V (As := []) (rest := []) (wr := [(a14, .inl (g.2 0, 225, .inl mfresh)), (a4, .inl (g.2 1, 900, .inl mtape))]) FC hKn hZ (k_X12_good l g h0 a1 a2 a3 a4 a6 a14 a15 a19 a20 a23 a24 a25 a26 a27 a28 mthrown mtaped msize (u46.1 1) (u46.1 2) (u46.1 3) (u46.1 4) (u46.1 5) (u46.1 6) mgoal mgoalDays mgoalHearer mleastOrder mwordsMany (by first | assumption | omega) (by first | assumption | omega) (by first | assumption | omega) (by first | assumption | omega) (by first | assumption | omega) (by first | assumption | omega) (by first | assumption | omega) (by first | assumption | omega) (by first | assumption | omega)) m_yX12_good b_1117 (ci := 12) rfl rfl rfl hP hD hS hA [1] [0, 2] rfl (by decide) rfl (by decide) (by decide) rfl hl.1 rfl (Nat.le_of_ble_eq_true rfl) dX12_readTells_57 ⟨(Nat.le_of_ble_eq_true rfl), (Nat.le_of_ble_eq_true rfl)⟩ ⟨(Nat.le_of_ble_eq_true rfl), (Nat.le_of_ble_eq_true rfl)⟩ (fun u48 H locs q49 hP hD hS => ?_)
    obtain ⟨q49_0, q49_1⟩ := q49
    have hP : va_P g.1 vwCl [(a14, .inl (g.2 0, 225, .inl mfresh)), (a4, .inl (g.2 1, 900, .inl mtape)), (h0, .inr (12, [.int mthrown, .ref a1, .ref a2, .ref a3, .ref a4, .int mtaped, .ref a6, .int msize, .int (u46.1 1), .int (u46.1 2), .int (u46.1 3), .int (u46.1 4), .int (u46.1 5), .int (u46.1 6), .ref a14, .ref a15, .int mgoal, .int mgoalDays, .int mgoalHearer, .ref a19, .ref a20, .int mleastOrder, .int mwordsMany, .ref a23, .ref a24, .ref a25, .ref a26, .ref a27, .ref a28]))] H := hP
    have hD : va_D A [(a14, .inl (g.2 0, 225, .inl mfresh)), (a4, .inl (g.2 1, 900, .inl mtape)), (h0, .inr (12, [.int mthrown, .ref a1, .ref a2, .ref a3, .ref a4, .int mtaped, .ref a6, .int msize, .int (u46.1 1), .int (u46.1 2), .int (u46.1 3), .int (u46.1 4), .int (u46.1 5), .int (u46.1 6), .ref a14, .ref a15, .int mgoal, .int mgoalDays, .int mgoalHearer, .ref a19, .ref a20, .int mleastOrder, .int mwordsMany, .ref a23, .ref a24, .ref a25, .ref a26, .ref a27, .ref a28]))] := hD
    refine W.eq (g2 := F0 m 60 ls [.int (u48.1 0)]) rfl ?_
    rcases (show (u46.1 5).toInt = 0 ∨ (u46.1 5).toInt ≠ 0 by omega) with c50 | c50
    · skip
      have q47_6g := q47_6 c50
      clear q47_6
      have q47_7g := q47_7 c50
      clear q47_7
      clear q47_8
      have q47_9g := q47_9 c50
      clear q47_9
      refine tp_i (v := 1) (Int32.toInt_inj.mp (show (u48.1 0).toInt = (1 : Int32).toInt by rw [show (1 : Int32).toInt = 1 by decide]; omega)) ?_
      refine lv_if_eq (tgt := 78) hx hb dX12_readTells_60 (by decide) (fun h => absurd h (by decide)) (fun _ => ?_)
      refine lv_aload_n hx hb dX12_readTells_63 rfl (lv_at hl 2 rfl) ?_
      refine g_get (C := RX12) (T := TX12) (N := 29) (ci := 12) (v := .ref a14) FC hKn hP i_X12 2 rfl rfl 14 (by decide) b_1132 rfl dX12_readTells_64 ?_
      refine lv_bipush (v := 101) hx hb dX12_readTells_67 (by decide) ?_
      refine lv_iload_n hx hb dX12_readTells_69 rfl (lv_at hl 1 rfl) ?_
      refine lv_iadd hx hb dX12_readTells_70 ?_
      have kc101 : (101 : Int32).toInt = 101 := by decide
      refine lv_topi (fun z51 e_z51 => ?_)
      have t_z51 : z51.toInt = ((101 : Int32)).toInt + (u3.1 0).toInt := by rw [e_z51]; exact fb_addI (by omega) (by omega)
      refine lv_dup2_11 hx hb dX12_readTells_71 rfl rfl ?_
      refine va_iald hx hb hKn.1 hP 0 0 rfl rfl (vp_in_iff.mpr ⟨by omega, by omega⟩) dX12_readTells_72 ?_
      refine lv_topi (fun z52 e_z52 => ?_)
      have q_z52 : z52.toInt = (mfresh z51.toNatClampNeg).toInt := by rw [e_z52]
      refine lv_iconst (v := 1) hx hb dX12_readTells_73 (by decide) ?_
      refine lv_iload_n hx hb dX12_readTells_74 rfl (lv_at hl 0 rfl) ?_
      refine lv_ishl hx hb dX12_readTells_75 ?_
      refine lv_topi (fun z53 e_z53 => ?_)
      refine lv_ior hx hb dX12_readTells_76 ?_
      refine lv_topi (fun z54 e_z54 => ?_)
      refine va_iast hx hb hKn.1 hP hD hS 0 0 rfl rfl (vp_in_iff.mpr ⟨by omega, by omega⟩) dX12_readTells_77 (fun H locs hP hD hS => ?_)
      have hP : va_P g.1 vwCl [(a14, .inl (g.2 0, 225, .inl (upd mfresh (z51.toNatClampNeg) z54))), (a4, .inl (g.2 1, 900, .inl mtape)), (h0, .inr (12, [.int mthrown, .ref a1, .ref a2, .ref a3, .ref a4, .int mtaped, .ref a6, .int msize, .int (u46.1 1), .int (u46.1 2), .int (u46.1 3), .int (u46.1 4), .int (u46.1 5), .int (u46.1 6), .ref a14, .ref a15, .int mgoal, .int mgoalDays, .int mgoalHearer, .ref a19, .ref a20, .int mleastOrder, .int mwordsMany, .ref a23, .ref a24, .ref a25, .ref a26, .ref a27, .ref a28]))] H := hP
      have hD : va_D A [(a14, .inl (g.2 0, 225, .inl (upd mfresh (z51.toNatClampNeg) z54))), (a4, .inl (g.2 1, 900, .inl mtape)), (h0, .inr (12, [.int mthrown, .ref a1, .ref a2, .ref a3, .ref a4, .int mtaped, .ref a6, .int msize, .int (u46.1 1), .int (u46.1 2), .int (u46.1 3), .int (u46.1 4), .int (u46.1 5), .int (u46.1 6), .ref a14, .ref a15, .int mgoal, .int mgoalDays, .int mgoalHearer, .ref a19, .ref a20, .int mleastOrder, .int mwordsMany, .ref a23, .ref a24, .ref a25, .ref a26, .ref a27, .ref a28]))] := hD
      have a_f55 : wok (upd mfresh (z51.toNatClampNeg) z54) := (wx_f i_mfresh (by omega) (by omega))
      refine gn_f (upd mfresh (z51.toNatClampNeg) z54) (fun f55 E_f55 => ?_)
      rw [E_f55] at hP hD a_f55
      have lw_f55 : (11 : Int) ≤ z51.toInt := by (try clear q4_6); (try clear q4_7); (try clear q4_8); (try clear q4_9); (try clear q47_6); (try clear q47_7); (try clear q47_8); (try clear q47_9); omega
      have g_f55_0 : (f55 0).toInt = (mfresh 0).toInt := uklo E_f55 lw_f55 (by decide)
      have g_f55_2 : (f55 2).toInt = (mfresh 2).toInt := uklo E_f55 lw_f55 (by decide)
      have g_f55_5 : (f55 5).toInt = (mfresh 5).toInt := uklo E_f55 lw_f55 (by decide)
      have g_f55_6 : (f55 6).toInt = (mfresh 6).toInt := uklo E_f55 lw_f55 (by decide)
      have g_f55_7 : (f55 7).toInt = (mfresh 7).toInt := uklo E_f55 lw_f55 (by decide)
      have g_f55_8 : (f55 8).toInt = (mfresh 8).toInt := uklo E_f55 lw_f55 (by decide)
      have g_f55_9 : (f55 9).toInt = (mfresh 9).toInt := uklo E_f55 lw_f55 (by decide)
      exact rt_v FX ((fun k => match k with | 0 => 0 | 1 => u46.1 1 | 2 => u46.1 2 | 3 => u46.1 3 | 4 => u46.1 4 | 5 => u46.1 5 | 6 => u46.1 6 | _ => 0), (fun k => match k with | 0 => f55 | _ => fun _ => 0), (fun _ => fun _ => 0)) rfl ⟨(show 0 ≤ (u46.1 1).toInt ∧ (u46.1 1).toInt ≤ 900 by first | assumption | omega), (show 0 ≤ (u46.1 2).toInt ∧ (u46.1 2).toInt ≤ 900 by first | assumption | omega), (show 0 ≤ (u46.1 3).toInt ∧ (u46.1 3).toInt ≤ 4 by first | assumption | omega), (show 0 ≤ (u46.1 4).toInt ∧ (u46.1 4).toInt ≤ 99999 by first | assumption | omega), (show 0 ≤ (u46.1 5).toInt ∧ (u46.1 5).toInt ≤ 3 by first | assumption | omega), a_f55, (show 5 * mat.toInt - mtoken.toInt ≤ 5 * (u46.1 1).toInt - (u46.1 3).toInt from (Int.le_trans (q4_5) q47_5)), (show (u46.1 5).toInt = 0 → mfaultKind.toInt = 0 from (fun h9 => (absurd q47_6g c7))), (show ((f55) 0).toInt = (mfresh 0).toInt ∧ ((f55) 2).toInt = (mfresh 2).toInt from ⟨(g_f55_0.trans rfl), (g_f55_2.trans rfl)⟩)⟩ (hP.sub [2, 1, 0] rfl) (hD.sub [2, 1, 0] (by decide) rfl) hS (Nat.le_of_ble_eq_true rfl) (Nat.le_of_ble_eq_true rfl) dX12_readTells_78
    · skip
      clear q47_6
      clear q47_7
      have q47_8g := q47_8 c50
      clear q47_8
      clear q47_9
      refine tp_i (v := 0) (Int32.toInt_inj.mp (show (u48.1 0).toInt = (0 : Int32).toInt by rw [show (0 : Int32).toInt = 0 by decide]; omega)) ?_
      refine lv_if_eq (tgt := 78) hx hb dX12_readTells_60 (by decide) (fun _ => ?_) (fun h => absurd h (by decide))
      exact rt_v FX ((fun k => match k with | 0 => 0 | 1 => u46.1 1 | 2 => u46.1 2 | 3 => u46.1 3 | 4 => u46.1 4 | 5 => u46.1 5 | 6 => u46.1 6 | _ => 0), (fun k => match k with | 0 => mfresh | _ => fun _ => 0), (fun _ => fun _ => 0)) rfl ⟨(show 0 ≤ (u46.1 1).toInt ∧ (u46.1 1).toInt ≤ 900 by first | assumption | omega), (show 0 ≤ (u46.1 2).toInt ∧ (u46.1 2).toInt ≤ 900 by first | assumption | omega), (show 0 ≤ (u46.1 3).toInt ∧ (u46.1 3).toInt ≤ 4 by first | assumption | omega), (show 0 ≤ (u46.1 4).toInt ∧ (u46.1 4).toInt ≤ 99999 by first | assumption | omega), (show 0 ≤ (u46.1 5).toInt ∧ (u46.1 5).toInt ≤ 3 by first | assumption | omega), i_mfresh, (show 5 * mat.toInt - mtoken.toInt ≤ 5 * (u46.1 1).toInt - (u46.1 3).toInt from (Int.le_trans (q4_5) q47_5)), (show (u46.1 5).toInt = 0 → mfaultKind.toInt = 0 from (fun h9 => (absurd h9 c50))), (show ((mfresh) 0).toInt = (mfresh 0).toInt ∧ ((mfresh) 2).toInt = (mfresh 2).toInt from ⟨rfl, rfl⟩)⟩ (hP.sub [2, 1, 0] rfl) (hD.sub [2, 1, 0] (by decide) rfl) hS (Nat.le_of_ble_eq_true rfl) (Nat.le_of_ble_eq_true rfl) dX12_readTells_78
