set_option maxRecDepth 100000 in
set_option maxHeartbeats 4000000 in
theorem k_X12_readWord (l : Launch) (g : GG) (h0 : Nat) (a1 : Nat) (a2 : Nat) (a3 : Nat) (a4 : Nat) (a6 : Nat) (a14 : Nat) (a15 : Nat) (a19 : Nat) (a20 : Nat) (a23 : Nat) (a24 : Nat) (a25 : Nat) (a26 : Nat) (a27 : Nat) (a28 : Nat) (mthrown : Int32) (mtaped : Int32) (msize : Int32) (mat : Int32) (mfrom : Int32) (mtoken : Int32) (mvalue : Int32) (mfaultKind : Int32) (mfaultPlace : Int32) (mgoal : Int32) (mgoalDays : Int32) (mgoalHearer : Int32) (mleastOrder : Int32) (mwordsMany : Int32) (mtape : Nat → Int32) (mfresh : Nat → Int32) (i_mtaped : 0 ≤ mtaped.toInt ∧ mtaped.toInt ≤ 900) (i_msize : 0 ≤ msize.toInt ∧ msize.toInt ≤ 900) (i_mat : 0 ≤ mat.toInt ∧ mat.toInt ≤ 900) (i_mfrom : 0 ≤ mfrom.toInt ∧ mfrom.toInt ≤ 900) (i_mtoken : 0 ≤ mtoken.toInt ∧ mtoken.toInt ≤ 4) (i_mvalue : 0 ≤ mvalue.toInt ∧ mvalue.toInt ≤ 99999) (i_mfaultKind : 0 ≤ mfaultKind.toInt ∧ mfaultKind.toInt ≤ 3) (i_mgoalHearer : 0 ≤ mgoalHearer.toInt ∧ mgoalHearer.toInt ≤ 3) (i_mwordsMany : 0 ≤ mwordsMany.toInt ∧ mwordsMany.toInt ≤ 10) (i_mfresh : wok mfresh) (h6 : (mfresh 6).toInt ≤ 7) : Ct l g yX12_readWord cX12_readWord 4 none { frames := 8, cells := 0, slots := 0, locals := 174 } [.ref h0] [(h0, .inr (12, [.int mthrown, .ref a1, .ref a2, .ref a3, .ref a4, .int mtaped, .ref a6, .int msize, .int mat, .int mfrom, .int mtoken, .int mvalue, .int mfaultKind, .int mfaultPlace, .ref a14, .ref a15, .int mgoal, .int mgoalDays, .int mgoalHearer, .ref a19, .ref a20, .int mleastOrder, .int mwordsMany, .ref a23, .ref a24, .ref a25, .ref a26, .ref a27, .ref a28])), (a4, .inl (g.2 1, 900, .inl mtape)), (a14, .inl (g.2 0, 225, .inl mfresh))] (S := (Nat → Int32) × (Nat → Nat → Int32) × (Nat → Nat → Int64)) (fun _ => none) (fun u => (0 ≤ (u.1 1).toInt ∧ (u.1 1).toInt ≤ 900) ∧ (0 ≤ (u.1 2).toInt ∧ (u.1 2).toInt ≤ 900) ∧ (0 ≤ (u.1 3).toInt ∧ (u.1 3).toInt ≤ 4) ∧ (0 ≤ (u.1 4).toInt ∧ (u.1 4).toInt ≤ 99999) ∧ (0 ≤ (u.1 5).toInt ∧ (u.1 5).toInt ≤ 3) ∧ (wok (u.2.1 0)) ∧ (5 * mat.toInt - mtoken.toInt ≤ 5 * (u.1 1).toInt - (u.1 3).toInt) ∧ ((u.1 5).toInt = 0 → mfaultKind.toInt = 0) ∧ (((u.2.1 0) 0).toInt = (mfresh 0).toInt ∧ ((u.2.1 0) 2).toInt = (mfresh 2).toInt)) (fun u => [(h0, .inr (12, [.int mthrown, .ref a1, .ref a2, .ref a3, .ref a4, .int mtaped, .ref a6, .int msize, .int (u.1 1), .int (u.1 2), .int (u.1 3), .int (u.1 4), .int (u.1 5), .int (u.1 6), .ref a14, .ref a15, .int mgoal, .int mgoalDays, .int mgoalHearer, .ref a19, .ref a20, .int mleastOrder, .int mwordsMany, .ref a23, .ref a24, .ref a25, .ref a26, .ref a27, .ref a28])), (a4, .inl (g.2 1, 900, .inl mtape)), (a14, .inl (g.2 0, 225, .inl (u.2.1 0)))]) := by
  refine Ct.of (by decide) (Nat.le_of_ble_eq_true rfl) ?_
  intro p e s m below meth c A ls FX hP hD hS hl
  obtain ⟨FC, hr, hlk, hKn, hA, hnm, hZ⟩ := id FX
  have FC : CallFix p m c cX12_readWord 4 s _ BIG RX12 := FC
  obtain ⟨hx, hb, hml, hown, hB⟩ := id FC
  have hl : lv_has ls 4 [(0, .ref h0)] := hl
  have hf0 := wk_0 i_mfresh
  refine lv_bipush (v := 55) hx hb dX12_readWord_0 (by decide) ?_
  refine lv_iconst (v := 2) hx hb dX12_readWord_2 (by decide) ?_
  refine lv_aload_n hx hb dX12_readWord_3 rfl (lv_at hl 0 rfl) ?_
  refine g_get (C := RX12) (T := TX12) (N := 29) (ci := 12) (v := .ref a14) FC hKn hP i_X12 0 rfl rfl 14 (by decide) b_1132 rfl dX12_readWord_4 ?_
  refine lv_bipush (v := 6) hx hb dX12_readWord_7 (by decide) ?_
  refine va_iald hx hb hKn.1 hP 2 0 rfl rfl (by unfold vp_in; decide) dX12_readWord_9 ?_
  have kc6 : (6 : Int32).toInt = 6 := by decide
  refine lv_topi (fun z1 e_z1 => ?_)
  have t_z1 : 0 ≤ z1.toInt ∧ z1.toInt ≤ 8 := by rw [e_z1]; exact wk_6 i_mfresh
  have q_z1 : z1.toInt = (mfresh 6).toInt := by rw [e_z1]; rfl
  refine lv_imul hx hb dX12_readWord_10 ?_
  have kc2 : (2 : Int32).toInt = 2 := by decide
  refine lv_topi (fun z2 e_z2 => ?_)
  have t_z2 : z2.toInt = 2 * z1.toInt := by rw [e_z2, fb_mulI (by rw [show (2 : Int32).toInt = 2 by decide]; omega) (by rw [show (2 : Int32).toInt = 2 by decide]; omega), show (2 : Int32).toInt = 2 by decide]
  refine lv_iadd hx hb dX12_readWord_11 ?_
  have kc55 : (55 : Int32).toInt = 55 := by decide
  refine lv_topi (fun z3 e_z3 => ?_)
  have t_z3 : z3.toInt = ((55 : Int32)).toInt + z2.toInt := by rw [e_z3]; exact fb_addI (by omega) (by omega)
  refine lv_istore_n (lv' := [(1, .int z3), (0, .ref h0)]) hx hb dX12_readWord_12 rfl hl (by decide) rfl (fun ls hl => ?_)
  refine lv_aload_n hx hb dX12_readWord_13 rfl (lv_at hl 1 rfl) ?_
  refine g_get (C := RX12) (T := TX12) (N := 29) (ci := 12) (v := .ref a14) FC hKn hP i_X12 0 rfl rfl 14 (by decide) b_1132 rfl dX12_readWord_14 ?_
  refine lv_iload_n hx hb dX12_readWord_17 rfl (lv_at hl 0 rfl) ?_
  refine lv_iconst (v := 0) hx hb dX12_readWord_18 (by decide) ?_
  refine lv_iadd hx hb dX12_readWord_19 ?_
  have kc0 : (0 : Int32).toInt = 0 := by decide
  refine lv_topi (fun z4 e_z4 => ?_)
  have t_z4 : z4.toInt = z3.toInt + ((0 : Int32)).toInt := by rw [e_z4]; exact fb_addI (by omega) (by omega)
  refine lv_aload_n hx hb dX12_readWord_20 rfl (lv_at hl 1 rfl) ?_
  refine va_ldcS hx hb hown (hZ.2.2 32 _ rfl).1 dX12_readWord_21 ?_
  refine lv_iconst (v := 0) hx hb dX12_readWord_23 (by decide) ?_
  refine lv_sipush (v := 999) hx hb dX12_readWord_24 (by decide) ?_
  have kc999 : (999 : Int32).toInt = 999 := by decide
  refine call_V (As := [.ref (sa g 32), .int 0, .int 999]) (rest := [.int z4, .ref a14]) (wr := [(a14, .inl (g.2 0, 225, .inl mfresh))]) FC hKn hZ (k_X12_told l g 32 h0 a1 a2 a3 a4 a6 a14 a15 a19 a20 a23 a24 a25 a26 a27 a28 mthrown mtaped msize mat mfrom mtoken mvalue mfaultKind mfaultPlace mgoal mgoalDays mgoalHearer mleastOrder mwordsMany mtape ((0 : Int32)) ((999 : Int32)) (by first | assumption | omega) (by first | assumption | omega) (by first | assumption | omega) (by first | assumption | omega) (by first | assumption | omega) (by first | assumption | omega) (by first | assumption | omega) (by first | assumption | omega) (by first | assumption | omega) (by first | assumption | omega)) m_yX12_told b_1151 (ci := 12) rfl rfl rfl hP hD hS hA [0, 1] [2] rfl (by decide) rfl (by decide) (by decide) rfl hl.1 rfl (Nat.le_of_ble_eq_true rfl) dX12_readWord_27 ⟨(Nat.le_of_ble_eq_true rfl), (Nat.le_of_ble_eq_true rfl)⟩ ⟨(Nat.le_of_ble_eq_true rfl), (Nat.le_of_ble_eq_true rfl)⟩ (fun u5 H locs q6 hP hD hS => ?_)
  obtain ⟨q6_0, q6_1, q6_2, q6_3, q6_4, q6_5, q6_6, q6_7, q6_8⟩ := q6
  have hP : va_P g.1 vwCl [(a14, .inl (g.2 0, 225, .inl mfresh)), (h0, .inr (12, [.int mthrown, .ref a1, .ref a2, .ref a3, .ref a4, .int mtaped, .ref a6, .int msize, .int (u5.1 1), .int (u5.1 2), .int (u5.1 3), .int (u5.1 4), .int (u5.1 5), .int (u5.1 6), .ref a14, .ref a15, .int mgoal, .int mgoalDays, .int mgoalHearer, .ref a19, .ref a20, .int mleastOrder, .int mwordsMany, .ref a23, .ref a24, .ref a25, .ref a26, .ref a27, .ref a28])), (a4, .inl (g.2 1, 900, .inl mtape))] H := hP
  have hD : va_D A [(a14, .inl (g.2 0, 225, .inl mfresh)), (h0, .inr (12, [.int mthrown, .ref a1, .ref a2, .ref a3, .ref a4, .int mtaped, .ref a6, .int msize, .int (u5.1 1), .int (u5.1 2), .int (u5.1 3), .int (u5.1 4), .int (u5.1 5), .int (u5.1 6), .ref a14, .ref a15, .int mgoal, .int mgoalDays, .int mgoalHearer, .ref a19, .ref a20, .int mleastOrder, .int mwordsMany, .ref a23, .ref a24, .ref a25, .ref a26, .ref a27, .ref a28])), (a4, .inl (g.2 1, 900, .inl mtape))] := hD
  refine W.eq (g2 := F0 m 30 ls [.int (u5.1 0), .int z4, .ref a14]) rfl ?_
  refine va_iast hx hb hKn.1 hP hD hS 0 0 rfl rfl (vp_in_iff.mpr ⟨by omega, by omega⟩) dX12_readWord_30 (fun H locs hP hD hS => ?_)
  have hP : va_P g.1 vwCl [(a14, .inl (g.2 0, 225, .inl (upd mfresh (z4.toNatClampNeg) (u5.1 0)))), (h0, .inr (12, [.int mthrown, .ref a1, .ref a2, .ref a3, .ref a4, .int mtaped, .ref a6, .int msize, .int (u5.1 1), .int (u5.1 2), .int (u5.1 3), .int (u5.1 4), .int (u5.1 5), .int (u5.1 6), .ref a14, .ref a15, .int mgoal, .int mgoalDays, .int mgoalHearer, .ref a19, .ref a20, .int mleastOrder, .int mwordsMany, .ref a23, .ref a24, .ref a25, .ref a26, .ref a27, .ref a28])), (a4, .inl (g.2 1, 900, .inl mtape))] H := hP
  have hD : va_D A [(a14, .inl (g.2 0, 225, .inl (upd mfresh (z4.toNatClampNeg) (u5.1 0)))), (h0, .inr (12, [.int mthrown, .ref a1, .ref a2, .ref a3, .ref a4, .int mtaped, .ref a6, .int msize, .int (u5.1 1), .int (u5.1 2), .int (u5.1 3), .int (u5.1 4), .int (u5.1 5), .int (u5.1 6), .ref a14, .ref a15, .int mgoal, .int mgoalDays, .int mgoalHearer, .ref a19, .ref a20, .int mleastOrder, .int mwordsMany, .ref a23, .ref a24, .ref a25, .ref a26, .ref a27, .ref a28])), (a4, .inl (g.2 1, 900, .inl mtape))] := hD
  have a_f7 : wok (upd mfresh (z4.toNatClampNeg) (u5.1 0)) := (wx_f i_mfresh (by omega) (by omega))
  refine gn_f (upd mfresh (z4.toNatClampNeg) (u5.1 0)) (fun f7 E_f7 => ?_)
  rw [E_f7] at hP hD a_f7
  have lw_f7 : (11 : Int) ≤ z4.toInt := by (try clear q6_6); (try clear q6_7); (try clear q6_8); omega
  have g_f7_0 : (f7 0).toInt = (mfresh 0).toInt := uklo E_f7 lw_f7 (by decide)
  have g_f7_2 : (f7 2).toInt = (mfresh 2).toInt := uklo E_f7 lw_f7 (by decide)
  have g_f7_5 : (f7 5).toInt = (mfresh 5).toInt := uklo E_f7 lw_f7 (by decide)
  have g_f7_6 : (f7 6).toInt = (mfresh 6).toInt := uklo E_f7 lw_f7 (by decide)
  have g_f7_7 : (f7 7).toInt = (mfresh 7).toInt := uklo E_f7 lw_f7 (by decide)
  have g_f7_8 : (f7 8).toInt = (mfresh 8).toInt := uklo E_f7 lw_f7 (by decide)
  have g_f7_9 : (f7 9).toInt = (mfresh 9).toInt := uklo E_f7 lw_f7 (by decide)
  refine lv_aload_n hx hb dX12_readWord_31 rfl (lv_at hl 1 rfl) ?_
  refine va_ldcS hx hb hown (hZ.2.2 33 _ rfl).1 dX12_readWord_32 ?_
  refine call_V (As := [.ref (sa g 33)]) (rest := []) (wr := [(a14, .inl (g.2 0, 225, .inl f7))]) FC hKn hZ (k_X12_needs l g 33 h0 a1 a2 a3 a4 a6 a14 a15 a19 a20 a23 a24 a25 a26 a27 a28 mthrown mtaped msize (u5.1 1) (u5.1 2) (u5.1 3) (u5.1 4) (u5.1 5) (u5.1 6) mgoal mgoalDays mgoalHearer mleastOrder mwordsMany mtape (by first | assumption | omega) (by first | assumption | omega) (by first | assumption | omega) (by first | assumption | omega) (by first | assumption | omega) (by first | assumption | omega) (by first | assumption | omega) (by first | assumption | omega) (by first | assumption | omega) (by first | assumption | omega)) m_yX12_needs b_1130 (ci := 12) rfl rfl rfl hP hD hS hA [1, 2] [0] rfl (by decide) rfl (by decide) (by decide) rfl hl.1 rfl (Nat.le_of_ble_eq_true rfl) dX12_readWord_34 ⟨(Nat.le_of_ble_eq_true rfl), (Nat.le_of_ble_eq_true rfl)⟩ ⟨(Nat.le_of_ble_eq_true rfl), (Nat.le_of_ble_eq_true rfl)⟩ (fun u8 H locs q9 hP hD hS => ?_)
  obtain ⟨q9_0, q9_1, q9_2, q9_3, q9_4, q9_5, q9_6⟩ := q9
  have hP : va_P g.1 vwCl [(a14, .inl (g.2 0, 225, .inl f7)), (h0, .inr (12, [.int mthrown, .ref a1, .ref a2, .ref a3, .ref a4, .int mtaped, .ref a6, .int msize, .int (u8.1 1), .int (u8.1 2), .int (u8.1 3), .int (u8.1 4), .int (u8.1 5), .int (u8.1 6), .ref a14, .ref a15, .int mgoal, .int mgoalDays, .int mgoalHearer, .ref a19, .ref a20, .int mleastOrder, .int mwordsMany, .ref a23, .ref a24, .ref a25, .ref a26, .ref a27, .ref a28])), (a4, .inl (g.2 1, 900, .inl mtape))] H := hP
  have hD : va_D A [(a14, .inl (g.2 0, 225, .inl f7)), (h0, .inr (12, [.int mthrown, .ref a1, .ref a2, .ref a3, .ref a4, .int mtaped, .ref a6, .int msize, .int (u8.1 1), .int (u8.1 2), .int (u8.1 3), .int (u8.1 4), .int (u8.1 5), .int (u8.1 6), .ref a14, .ref a15, .int mgoal, .int mgoalDays, .int mgoalHearer, .ref a19, .ref a20, .int mleastOrder, .int mwordsMany, .ref a23, .ref a24, .ref a25, .ref a26, .ref a27, .ref a28])), (a4, .inl (g.2 1, 900, .inl mtape))] := hD
  refine W.eq (g2 := F0 m 37 ls []) rfl ?_
  refine lv_iconst (v := 0) hx hb dX12_readWord_37 (by decide) ?_
  refine lv_istore_n (lv' := [(2, .int 0), (1, .int z3), (0, .ref h0)]) hx hb dX12_readWord_38 rfl hl (by decide) rfl (fun ls hl => ?_)
  have lp52 : ∀ (n54 : Nat) (x43 : Int32) (x44 : Int32) (x45 : Int32) (x46 : Int32) (x47 : Int32) (x48 : Int32) (x49 : Int32) (H : Heap) (locs : List Loc) (ls : Array Slot), 0 ≤ x43.toInt ∧ x43.toInt ≤ 255 → 0 ≤ x44.toInt ∧ x44.toInt ≤ 900 → 0 ≤ x45.toInt ∧ x45.toInt ≤ 900 → 0 ≤ x46.toInt ∧ x46.toInt ≤ 4 → 0 ≤ x47.toInt ∧ x47.toInt ≤ 99999 → 0 ≤ x48.toInt ∧ x48.toInt ≤ 3 → 5 * mat.toInt - mtoken.toInt ≤ 5 * x44.toInt - x46.toInt → (x48.toInt = 0 → mfaultKind.toInt = 0) → (5 * (900 - x44.toInt) + x46.toInt).toNat < n54 → va_P g.1 vwCl [(a14, .inl (g.2 0, 225, .inl f7)), (h0, .inr (12, [.int mthrown, .ref a1, .ref a2, .ref a3, .ref a4, .int mtaped, .ref a6, .int msize, .int x44, .int x45, .int x46, .int x47, .int x48, .int x49, .ref a14, .ref a15, .int mgoal, .int mgoalDays, .int mgoalHearer, .ref a19, .ref a20, .int mleastOrder, .int mwordsMany, .ref a23, .ref a24, .ref a25, .ref a26, .ref a27, .ref a28])), (a4, .inl (g.2 1, 900, .inl mtape))] H → va_D A [(a14, .inl (g.2 0, 225, .inl f7)), (h0, .inr (12, [.int mthrown, .ref a1, .ref a2, .ref a3, .ref a4, .int mtaped, .ref a6, .int msize, .int x44, .int x45, .int x46, .int x47, .int x48, .int x49, .ref a14, .ref a15, .int mgoal, .int mgoalDays, .int mgoalHearer, .ref a19, .ref a20, .int mleastOrder, .int mwordsMany, .ref a23, .ref a24, .ref a25, .ref a26, .ref a27, .ref a28])), (a4, .inl (g.2 1, 900, .inl mtape))] → va_S A s.heap H locs → lv_has ls 4 [(2, .int x43), (1, .int z3), (0, .ref h0)] → W p l e { frames := 8, cells := 0, slots := 0, locals := 174 } s m ([.ref h0].toArray) below meth c H locs 0 0 (MQ below (QX (S := (Nat → Int32) × (Nat → Nat → Int32) × (Nat → Nat → Int64)) (fun _ => none) (fun u => (0 ≤ (u.1 1).toInt ∧ (u.1 1).toInt ≤ 900) ∧ (0 ≤ (u.1 2).toInt ∧ (u.1 2).toInt ≤ 900) ∧ (0 ≤ (u.1 3).toInt ∧ (u.1 3).toInt ≤ 4) ∧ (0 ≤ (u.1 4).toInt ∧ (u.1 4).toInt ≤ 99999) ∧ (0 ≤ (u.1 5).toInt ∧ (u.1 5).toInt ≤ 3) ∧ (wok (u.2.1 0)) ∧ (5 * mat.toInt - mtoken.toInt ≤ 5 * (u.1 1).toInt - (u.1 3).toInt) ∧ ((u.1 5).toInt = 0 → mfaultKind.toInt = 0) ∧ (((u.2.1 0) 0).toInt = (mfresh 0).toInt ∧ ((u.2.1 0) 2).toInt = (mfresh 2).toInt)) g (fun u => [(h0, .inr (12, [.int mthrown, .ref a1, .ref a2, .ref a3, .ref a4, .int mtaped, .ref a6, .int msize, .int (u.1 1), .int (u.1 2), .int (u.1 3), .int (u.1 4), .int (u.1 5), .int (u.1 6), .ref a14, .ref a15, .int mgoal, .int mgoalDays, .int mgoalHearer, .ref a19, .ref a20, .int mleastOrder, .int mwordsMany, .ref a23, .ref a24, .ref a25, .ref a26, .ref a27, .ref a28])), (a4, .inl (g.2 1, 900, .inl mtape)), (a14, .inl (g.2 0, 225, .inl (u.2.1 0)))]) A) ([.ref h0].toArray) s 0 0 A) (F0 m 39 ls []) := by
    intro n54
    induction n54 with
    | zero =>
      intro x43 x44 x45 x46 x47 x48 x49 H locs ls h_x43 h_x44 h_x45 h_x46 h_x47 h_x48 hi50 hi51 hn55
      exact absurd hn55 (Nat.not_lt_zero _)
    | succ n54 ih53 =>
      intro x43 x44 x45 x46 x47 x48 x49 H locs ls h_x43 h_x44 h_x45 h_x46 h_x47 h_x48 hi50 hi51 hn55 hP hD hS hl
      refine lv_aload_n hx hb dX12_readWord_39 rfl (lv_at hl 2 rfl) ?_
      refine call_V (As := []) (rest := []) (wr := []) FC hKn hZ (k_X12_freshState l g h0 a1 a2 a3 a4 a6 a14 a15 a19 a20 a23 a24 a25 a26 a27 a28 mthrown mtaped msize x44 x45 x46 x47 x48 x49 mgoal mgoalDays mgoalHearer mleastOrder mwordsMany mtape f7 (by first | assumption | omega) (by first | assumption | omega) (by first | assumption | omega) (by first | assumption | omega) (by first | assumption | omega) (by first | assumption | omega) (by first | assumption | omega) (by first | assumption | omega) (by first | assumption | omega) a_f7) m_yX12_freshState b_1152 (ci := 12) rfl rfl rfl hP hD hS hA [1, 2, 0] [] rfl (by decide) rfl (by decide) (by decide) rfl hl.1 rfl (Nat.le_of_ble_eq_true rfl) dX12_readWord_40 ⟨(Nat.le_of_ble_eq_true rfl), (Nat.le_of_ble_eq_true rfl)⟩ ⟨(Nat.le_of_ble_eq_true rfl), (Nat.le_of_ble_eq_true rfl)⟩ (fun u56 H locs q57 hP hD hS => ?_)
      obtain ⟨q57_0, q57_1, q57_2, q57_3, q57_4, q57_5, q57_6, q57_7, q57_8, q57_9⟩ := q57
      have hP : va_P g.1 vwCl [(h0, .inr (12, [.int mthrown, .ref a1, .ref a2, .ref a3, .ref a4, .int mtaped, .ref a6, .int msize, .int (u56.1 1), .int (u56.1 2), .int (u56.1 3), .int (u56.1 4), .int (u56.1 5), .int (u56.1 6), .ref a14, .ref a15, .int mgoal, .int mgoalDays, .int mgoalHearer, .ref a19, .ref a20, .int mleastOrder, .int mwordsMany, .ref a23, .ref a24, .ref a25, .ref a26, .ref a27, .ref a28])), (a4, .inl (g.2 1, 900, .inl mtape)), (a14, .inl (g.2 0, 225, .inl f7))] H := hP
      have hD : va_D A [(h0, .inr (12, [.int mthrown, .ref a1, .ref a2, .ref a3, .ref a4, .int mtaped, .ref a6, .int msize, .int (u56.1 1), .int (u56.1 2), .int (u56.1 3), .int (u56.1 4), .int (u56.1 5), .int (u56.1 6), .ref a14, .ref a15, .int mgoal, .int mgoalDays, .int mgoalHearer, .ref a19, .ref a20, .int mleastOrder, .int mwordsMany, .ref a23, .ref a24, .ref a25, .ref a26, .ref a27, .ref a28])), (a4, .inl (g.2 1, 900, .inl mtape)), (a14, .inl (g.2 0, 225, .inl f7))] := hD
      refine W.eq (g2 := F0 m 43 ls [.int (u56.1 0)]) rfl ?_
      refine lv_istore_n (lv' := [(3, .int (u56.1 0)), (2, .int x43), (1, .int z3), (0, .ref h0)]) hx hb dX12_readWord_43 rfl hl (by decide) rfl (fun ls hl => ?_)
      refine lv_aload_n hx hb dX12_readWord_44 rfl (lv_at hl 3 rfl) ?_
      refine call_V (As := []) (rest := []) (wr := [(a4, .inl (g.2 1, 900, .inl mtape)), (a14, .inl (g.2 0, 225, .inl f7))]) FC hKn hZ (k_X12_good l g h0 a1 a2 a3 a4 a6 a14 a15 a19 a20 a23 a24 a25 a26 a27 a28 mthrown mtaped msize (u56.1 1) (u56.1 2) (u56.1 3) (u56.1 4) (u56.1 5) (u56.1 6) mgoal mgoalDays mgoalHearer mleastOrder mwordsMany (by first | assumption | omega) (by first | assumption | omega) (by first | assumption | omega) (by first | assumption | omega) (by first | assumption | omega) (by first | assumption | omega) (by first | assumption | omega) (by first | assumption | omega) (by first | assumption | omega)) m_yX12_good b_1117 (ci := 12) rfl rfl rfl hP hD hS hA [0] [1, 2] rfl (by decide) rfl (by decide) (by decide) rfl hl.1 rfl (Nat.le_of_ble_eq_true rfl) dX12_readWord_45 ⟨(Nat.le_of_ble_eq_true rfl), (Nat.le_of_ble_eq_true rfl)⟩ ⟨(Nat.le_of_ble_eq_true rfl), (Nat.le_of_ble_eq_true rfl)⟩ (fun u58 H locs q59 hP hD hS => ?_)
      obtain ⟨q59_0, q59_1⟩ := q59
      have hP : va_P g.1 vwCl [(a4, .inl (g.2 1, 900, .inl mtape)), (a14, .inl (g.2 0, 225, .inl f7)), (h0, .inr (12, [.int mthrown, .ref a1, .ref a2, .ref a3, .ref a4, .int mtaped, .ref a6, .int msize, .int (u56.1 1), .int (u56.1 2), .int (u56.1 3), .int (u56.1 4), .int (u56.1 5), .int (u56.1 6), .ref a14, .ref a15, .int mgoal, .int mgoalDays, .int mgoalHearer, .ref a19, .ref a20, .int mleastOrder, .int mwordsMany, .ref a23, .ref a24, .ref a25, .ref a26, .ref a27, .ref a28]))] H := hP
      have hD : va_D A [(a4, .inl (g.2 1, 900, .inl mtape)), (a14, .inl (g.2 0, 225, .inl f7)), (h0, .inr (12, [.int mthrown, .ref a1, .ref a2, .ref a3, .ref a4, .int mtaped, .ref a6, .int msize, .int (u56.1 1), .int (u56.1 2), .int (u56.1 3), .int (u56.1 4), .int (u56.1 5), .int (u56.1 6), .ref a14, .ref a15, .int mgoal, .int mgoalDays, .int mgoalHearer, .ref a19, .ref a20, .int mleastOrder, .int mwordsMany, .ref a23, .ref a24, .ref a25, .ref a26, .ref a27, .ref a28]))] := hD
      refine W.eq (g2 := F0 m 48 ls [.int (u58.1 0)]) rfl ?_
      rcases (show (u56.1 5).toInt = 0 ∨ (u56.1 5).toInt ≠ 0 by omega) with c60 | c60
      · skip
        have q57_6g := q57_6 c60
        clear q57_6
        have q57_7g := q57_7 c60
        clear q57_7
        clear q57_8
        have q57_9g := q57_9 c60
        clear q57_9
        refine tp_i (v := 1) (Int32.toInt_inj.mp (show (u58.1 0).toInt = (1 : Int32).toInt by rw [show (1 : Int32).toInt = 1 by decide]; omega)) ?_
        refine lv_if_ne (tgt := 52) hx hb dX12_readWord_48 (by decide) (fun _ => ?_) (fun h => absurd h (by decide))
        refine lv_iload_n hx hb dX12_readWord_52 rfl (lv_at hl 1 rfl) ?_
        refine lv_iconst (v := 1) hx hb dX12_readWord_53 (by decide) ?_
        refine lv_iload_n hx hb dX12_readWord_54 rfl (lv_at hl 0 rfl) ?_
        refine lv_ishl hx hb dX12_readWord_55 ?_
        refine lv_topi (fun z61 e_z61 => ?_)
        have t_z61 : 1 ≤ z61.toInt ∧ z61.toInt ≤ 128 := by rw [e_z61]; exact shl_b (n := 7) (by omega) (by omega) (by decide)
        refine lv_ior hx hb dX12_readWord_56 ?_
        refine lv_topi (fun z62 e_z62 => ?_)
        have t_z62 : 0 ≤ z62.toInt ∧ z62.toInt < 256 := by rw [e_z62]; exact or_k (n := 256) 8 (by decide) (by decide) (by omega) (by omega) (by omega) (by omega)
        have op_z62 : 1 ≤ z62.toInt := by rw [e_z62]; exact or_p (by omega) (by omega)
        refine lv_istore_n (lv' := [(2, .int z62), (3, .int (u56.1 0)), (1, .int z3), (0, .ref h0)]) hx hb dX12_readWord_57 rfl hl (by decide) rfl (fun ls hl => ?_)
        refine lv_aload_n hx hb dX12_readWord_58 rfl (lv_at hl 3 rfl) ?_
        refine g_get (C := RX12) (T := TX12) (N := 29) (ci := 12) (v := .int (u56.1 3)) FC hKn hP i_X12 2 rfl rfl 10 (by decide) b_1114 rfl dX12_readWord_59 ?_
        refine lv_iconst (v := 3) hx hb dX12_readWord_62 (by decide) ?_
        refine lv_icmp_ne (tgt := 39) hx hb dX12_readWord_63 (by decide) (fun c63 => ?_) (fun c63 => ?_)
        · have c63 := k_ne (a := (u56.1 3).toInt) (b := 3) rfl (by decide) c63
          exact ih53 z62 (u56.1 1) (u56.1 2) (u56.1 3) (u56.1 4) (u56.1 5) (u56.1 6) _ _ ls (by first | assumption | omega) (by first | assumption | omega) (by first | assumption | omega) (by first | assumption | omega) (by first | assumption | omega) (by first | assumption | omega) (Int.le_trans (hi50) q57_5) (fun h9 => (hi51 q57_6g)) (msr hn55 q57_9g (by omega) (by omega)) (hP.sub [1, 2, 0] rfl) (hD.sub [1, 2, 0] (by decide) rfl) hS (lv_sub hl [0, 2, 3] rfl)
        · have c63 := k_eq (a := (u56.1 3).toInt) (b := 3) rfl (by decide) c63
          refine lv_aload_n hx hb dX12_readWord_66 rfl (lv_at hl 3 rfl) ?_
          refine g_get (C := RX12) (T := TX12) (N := 29) (ci := 12) (v := .ref a14) FC hKn hP i_X12 2 rfl rfl 14 (by decide) b_1132 rfl dX12_readWord_67 ?_
          refine lv_iload_n hx hb dX12_readWord_70 rfl (lv_at hl 2 rfl) ?_
          refine lv_iconst (v := 1) hx hb dX12_readWord_71 (by decide) ?_
          refine lv_iadd hx hb dX12_readWord_72 ?_
          have kc1 : (1 : Int32).toInt = 1 := by decide
          refine lv_topi (fun z64 e_z64 => ?_)
          have t_z64 : z64.toInt = z3.toInt + ((1 : Int32)).toInt := by rw [e_z64]; exact fb_addI (by omega) (by omega)
          refine lv_iload_n hx hb dX12_readWord_73 rfl (lv_at hl 0 rfl) ?_
          refine va_iast hx hb hKn.1 hP hD hS 1 0 rfl rfl (vp_in_iff.mpr ⟨by omega, by omega⟩) dX12_readWord_74 (fun H locs hP hD hS => ?_)
          have hP : va_P g.1 vwCl [(a4, .inl (g.2 1, 900, .inl mtape)), (a14, .inl (g.2 0, 225, .inl (upd f7 (z64.toNatClampNeg) z62))), (h0, .inr (12, [.int mthrown, .ref a1, .ref a2, .ref a3, .ref a4, .int mtaped, .ref a6, .int msize, .int (u56.1 1), .int (u56.1 2), .int (u56.1 3), .int (u56.1 4), .int (u56.1 5), .int (u56.1 6), .ref a14, .ref a15, .int mgoal, .int mgoalDays, .int mgoalHearer, .ref a19, .ref a20, .int mleastOrder, .int mwordsMany, .ref a23, .ref a24, .ref a25, .ref a26, .ref a27, .ref a28]))] H := hP
          have hD : va_D A [(a4, .inl (g.2 1, 900, .inl mtape)), (a14, .inl (g.2 0, 225, .inl (upd f7 (z64.toNatClampNeg) z62))), (h0, .inr (12, [.int mthrown, .ref a1, .ref a2, .ref a3, .ref a4, .int mtaped, .ref a6, .int msize, .int (u56.1 1), .int (u56.1 2), .int (u56.1 3), .int (u56.1 4), .int (u56.1 5), .int (u56.1 6), .ref a14, .ref a15, .int mgoal, .int mgoalDays, .int mgoalHearer, .ref a19, .ref a20, .int mleastOrder, .int mwordsMany, .ref a23, .ref a24, .ref a25, .ref a26, .ref a27, .ref a28]))] := hD
          have a_f65 : wok (upd f7 (z64.toNatClampNeg) z62) := (wx_o a_f7 (by omega) (by omega))
          refine gn_f (upd f7 (z64.toNatClampNeg) z62) (fun f65 E_f65 => ?_)
          rw [E_f65] at hP hD a_f65
          have lw_f65 : (11 : Int) ≤ z64.toInt := by (try clear q6_6); (try clear q6_7); (try clear q6_8); (try clear q9_6); (try clear q57_6); (try clear q57_7); (try clear q57_8); (try clear q57_9); (try clear hi51); omega
          have g_f65_0 : (f65 0).toInt = (f7 0).toInt := uklo E_f65 lw_f65 (by decide)
          have g_f65_2 : (f65 2).toInt = (f7 2).toInt := uklo E_f65 lw_f65 (by decide)
          have g_f65_5 : (f65 5).toInt = (f7 5).toInt := uklo E_f65 lw_f65 (by decide)
          have g_f65_6 : (f65 6).toInt = (f7 6).toInt := uklo E_f65 lw_f65 (by decide)
          have g_f65_7 : (f65 7).toInt = (f7 7).toInt := uklo E_f65 lw_f65 (by decide)
          have g_f65_8 : (f65 8).toInt = (f7 8).toInt := uklo E_f65 lw_f65 (by decide)
          have g_f65_9 : (f65 9).toInt = (f7 9).toInt := uklo E_f65 lw_f65 (by decide)
          refine lv_aload_n hx hb dX12_readWord_75 rfl (lv_at hl 3 rfl) ?_
          refine g_get (C := RX12) (T := TX12) (N := 29) (ci := 12) (v := .ref a14) FC hKn hP i_X12 2 rfl rfl 14 (by decide) b_1132 rfl dX12_readWord_76 ?_
          refine lv_bipush (v := 6) hx hb dX12_readWord_79 (by decide) ?_
          refine lv_dup2_11 hx hb dX12_readWord_81 rfl rfl ?_
          refine va_iald hx hb hKn.1 hP 1 0 rfl rfl (by unfold vp_in; decide) dX12_readWord_82 ?_
          refine lv_topi (fun z66 e_z66 => ?_)
          have t_z66 : 0 ≤ z66.toInt ∧ z66.toInt ≤ 8 := by rw [e_z66]; exact wk_6 a_f65
          have q_z66 : z66.toInt = (f65 6).toInt := by rw [e_z66]; rfl
          refine lv_iconst (v := 1) hx hb dX12_readWord_83 (by decide) ?_
          refine lv_iadd hx hb dX12_readWord_84 ?_
          refine lv_topi (fun z67 e_z67 => ?_)
          have t_z67 : z67.toInt = z66.toInt + ((1 : Int32)).toInt := by rw [e_z67]; exact fb_addI (by omega) (by omega)
          refine va_iast hx hb hKn.1 hP hD hS 1 0 rfl rfl (by unfold vp_in; decide) dX12_readWord_85 (fun H locs hP hD hS => ?_)
          have hP : va_P g.1 vwCl [(a4, .inl (g.2 1, 900, .inl mtape)), (a14, .inl (g.2 0, 225, .inl (upd f65 ((6 : Int32).toNatClampNeg) z67))), (h0, .inr (12, [.int mthrown, .ref a1, .ref a2, .ref a3, .ref a4, .int mtaped, .ref a6, .int msize, .int (u56.1 1), .int (u56.1 2), .int (u56.1 3), .int (u56.1 4), .int (u56.1 5), .int (u56.1 6), .ref a14, .ref a15, .int mgoal, .int mgoalDays, .int mgoalHearer, .ref a19, .ref a20, .int mleastOrder, .int mwordsMany, .ref a23, .ref a24, .ref a25, .ref a26, .ref a27, .ref a28]))] H := hP
          have hD : va_D A [(a4, .inl (g.2 1, 900, .inl mtape)), (a14, .inl (g.2 0, 225, .inl (upd f65 ((6 : Int32).toNatClampNeg) z67))), (h0, .inr (12, [.int mthrown, .ref a1, .ref a2, .ref a3, .ref a4, .int mtaped, .ref a6, .int msize, .int (u56.1 1), .int (u56.1 2), .int (u56.1 3), .int (u56.1 4), .int (u56.1 5), .int (u56.1 6), .ref a14, .ref a15, .int mgoal, .int mgoalDays, .int mgoalHearer, .ref a19, .ref a20, .int mleastOrder, .int mwordsMany, .ref a23, .ref a24, .ref a25, .ref a26, .ref a27, .ref a28]))] := hD
          have a_f68 : wok (upd f65 ((6 : Int32).toNatClampNeg) z67) := (wk_u6 a_f65 (by omega) (by omega) (by rw [← E_f65, show 56 + 2 * (upd f7 (z64.toNatClampNeg) z62 6).toInt.toNat = z64.toNatClampNeg from (ixe (by have q9 : (upd f7 (z64.toNatClampNeg) z62 6).toInt = (f65 6).toInt := (by rw [E_f65]); omega)).symm, pk_us]; omega))
          refine gn_f (upd f65 ((6 : Int32).toNatClampNeg) z67) (fun f68 E_f68 => ?_)
          rw [E_f68] at hP hD a_f68
          have g_f68_0 : (f68 0).toInt = (f65 0).toInt := by rw [← E_f68, show ((6 : Int32).toNatClampNeg : Nat) = 6 from rfl, uo (by decide)]
          have g_f68_2 : (f68 2).toInt = (f65 2).toInt := by rw [← E_f68, show ((6 : Int32).toNatClampNeg : Nat) = 6 from rfl, uo (by decide)]
          have g_f68_5 : (f68 5).toInt = (f65 5).toInt := by rw [← E_f68, show ((6 : Int32).toNatClampNeg : Nat) = 6 from rfl, uo (by decide)]
          have g_f68_6 : (f68 6).toInt = z67.toInt := by rw [← E_f68, show ((6 : Int32).toNatClampNeg : Nat) = 6 from rfl, pk_us]
          have g_f68_7 : (f68 7).toInt = (f65 7).toInt := by rw [← E_f68, show ((6 : Int32).toNatClampNeg : Nat) = 6 from rfl, uo (by decide)]
          have g_f68_8 : (f68 8).toInt = (f65 8).toInt := by rw [← E_f68, show ((6 : Int32).toNatClampNeg : Nat) = 6 from rfl, uo (by decide)]
          have g_f68_9 : (f68 9).toInt = (f65 9).toInt := by rw [← E_f68, show ((6 : Int32).toNatClampNeg : Nat) = 6 from rfl, uo (by decide)]
          exact rt_v FX ((fun k => match k with | 0 => 0 | 1 => u56.1 1 | 2 => u56.1 2 | 3 => u56.1 3 | 4 => u56.1 4 | 5 => u56.1 5 | 6 => u56.1 6 | _ => 0), (fun k => match k with | 0 => f68 | _ => fun _ => 0), (fun _ => fun _ => 0)) rfl ⟨(show 0 ≤ (u56.1 1).toInt ∧ (u56.1 1).toInt ≤ 900 by first | assumption | omega), (show 0 ≤ (u56.1 2).toInt ∧ (u56.1 2).toInt ≤ 900 by first | assumption | omega), (show 0 ≤ (u56.1 3).toInt ∧ (u56.1 3).toInt ≤ 4 by first | assumption | omega), (show 0 ≤ (u56.1 4).toInt ∧ (u56.1 4).toInt ≤ 99999 by first | assumption | omega), (show 0 ≤ (u56.1 5).toInt ∧ (u56.1 5).toInt ≤ 3 by first | assumption | omega), a_f68, (show 5 * mat.toInt - mtoken.toInt ≤ 5 * (u56.1 1).toInt - (u56.1 3).toInt from (Int.le_trans (hi50) q57_5)), (show (u56.1 5).toInt = 0 → mfaultKind.toInt = 0 from (fun h9 => (hi51 q57_6g))), (show ((f68) 0).toInt = (mfresh 0).toInt ∧ ((f68) 2).toInt = (mfresh 2).toInt from ⟨(g_f68_0.trans (g_f65_0.trans (g_f7_0.trans rfl))), (g_f68_2.trans (g_f65_2.trans (g_f7_2.trans rfl)))⟩)⟩ (hP.sub [2, 0, 1] rfl) (hD.sub [2, 0, 1] (by decide) rfl) hS (Nat.le_of_ble_eq_true rfl) (Nat.le_of_ble_eq_true rfl) dX12_readWord_86
      · skip
        clear q57_6
        clear q57_7
        have q57_8g := q57_8 c60
        clear q57_8
        clear q57_9
        refine tp_i (v := 0) (Int32.toInt_inj.mp (show (u58.1 0).toInt = (0 : Int32).toInt by rw [show (0 : Int32).toInt = 0 by decide]; omega)) ?_
        refine lv_if_ne (tgt := 52) hx hb dX12_readWord_48 (by decide) (fun h => absurd h (by decide)) (fun _ => ?_)
        exact rt_v FX ((fun k => match k with | 0 => 0 | 1 => u56.1 1 | 2 => u56.1 2 | 3 => u56.1 3 | 4 => u56.1 4 | 5 => u56.1 5 | 6 => u56.1 6 | _ => 0), (fun k => match k with | 0 => f7 | _ => fun _ => 0), (fun _ => fun _ => 0)) rfl ⟨(show 0 ≤ (u56.1 1).toInt ∧ (u56.1 1).toInt ≤ 900 by first | assumption | omega), (show 0 ≤ (u56.1 2).toInt ∧ (u56.1 2).toInt ≤ 900 by first | assumption | omega), (show 0 ≤ (u56.1 3).toInt ∧ (u56.1 3).toInt ≤ 4 by first | assumption | omega), (show 0 ≤ (u56.1 4).toInt ∧ (u56.1 4).toInt ≤ 99999 by first | assumption | omega), (show 0 ≤ (u56.1 5).toInt ∧ (u56.1 5).toInt ≤ 3 by first | assumption | omega), a_f7, (show 5 * mat.toInt - mtoken.toInt ≤ 5 * (u56.1 1).toInt - (u56.1 3).toInt from (Int.le_trans (hi50) q57_5)), (show (u56.1 5).toInt = 0 → mfaultKind.toInt = 0 from (fun h9 => (absurd h9 c60))), (show ((f7) 0).toInt = (mfresh 0).toInt ∧ ((f7) 2).toInt = (mfresh 2).toInt from ⟨(g_f7_0.trans rfl), (g_f7_2.trans rfl)⟩)⟩ (hP.sub [2, 0, 1] rfl) (hD.sub [2, 0, 1] (by decide) rfl) hS (Nat.le_of_ble_eq_true rfl) (Nat.le_of_ble_eq_true rfl) dX12_readWord_51
  exact lp52 _ (0 : Int32) (u8.1 1) (u8.1 2) (u8.1 3) (u8.1 4) (u8.1 5) (u8.1 6) _ _ ls (by decide) (by first | assumption | omega) (by first | assumption | omega) (by first | assumption | omega) (by first | assumption | omega) (by first | assumption | omega) (Int.le_trans (q6_5) q9_5) (fun h9 => (q6_6 (q9_6 h9))) (Nat.lt_succ_self _) hP hD hS (lv_sub hl [0, 1, 2] rfl)
