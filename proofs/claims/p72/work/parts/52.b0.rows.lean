set_option maxRecDepth 100000 in
set_option maxHeartbeats 4000000 in
theorem k_X12_thinksOf (l : Launch) (g : GG) (h0 : Nat) (a1 : Nat) (a2 : Nat) (a3 : Nat) (a4 : Nat) (a6 : Nat) (a14 : Nat) (a15 : Nat) (a19 : Nat) (a20 : Nat) (a23 : Nat) (a24 : Nat) (a25 : Nat) (a26 : Nat) (a27 : Nat) (a28 : Nat) (mthrown : Int32) (mtaped : Int32) (msize : Int32) (mat : Int32) (mfrom : Int32) (mtoken : Int32) (mvalue : Int32) (mfaultKind : Int32) (mfaultPlace : Int32) (mgoal : Int32) (mgoalDays : Int32) (mgoalHearer : Int32) (mleastOrder : Int32) (mwordsMany : Int32) (mworld : Nat → Int32) (p1 : Int32) (p2 : Int32) (i_mtaped : 0 ≤ mtaped.toInt ∧ mtaped.toInt ≤ 900) (i_msize : 0 ≤ msize.toInt ∧ msize.toInt ≤ 900) (i_mat : 0 ≤ mat.toInt ∧ mat.toInt ≤ 900) (i_mfrom : 0 ≤ mfrom.toInt ∧ mfrom.toInt ≤ 900) (i_mtoken : 0 ≤ mtoken.toInt ∧ mtoken.toInt ≤ 4) (i_mvalue : 0 ≤ mvalue.toInt ∧ mvalue.toInt ≤ 99999) (i_mgoalHearer : 0 ≤ mgoalHearer.toInt ∧ mgoalHearer.toInt ≤ 3) (i_mwordsMany : 0 ≤ mwordsMany.toInt ∧ mwordsMany.toInt ≤ 10) (i_mworld : wod mworld) (i_p1 : 0 ≤ p1.toInt ∧ p1.toInt ≤ 3) (i_p2 : 0 ≤ p2.toInt ∧ p2.toInt ≤ 7) : Ct l g yX12_thinksOf cX12_thinksOf 3 (some .int) { frames := 0, cells := 0, slots := 0, locals := 0 } [.ref h0, .int p1, .int p2] [(h0, .inr (12, [.int mthrown, .ref a1, .ref a2, .ref a3, .ref a4, .int mtaped, .ref a6, .int msize, .int mat, .int mfrom, .int mtoken, .int mvalue, .int mfaultKind, .int mfaultPlace, .ref a14, .ref a15, .int mgoal, .int mgoalDays, .int mgoalHearer, .ref a19, .ref a20, .int mleastOrder, .int mwordsMany, .ref a23, .ref a24, .ref a25, .ref a26, .ref a27, .ref a28])), (a1, .inl (g.2 0, 225, .inl mworld))] (S := (Nat → Int32) × (Nat → Nat → Int32) × (Nat → Nat → Int64)) (fun u => some (.int (u.1 0))) (fun u => (0 ≤ (u.1 0).toInt ∧ (u.1 0).toInt ≤ 99)) (fun u => [(h0, .inr (12, [.int mthrown, .ref a1, .ref a2, .ref a3, .ref a4, .int mtaped, .ref a6, .int msize, .int mat, .int mfrom, .int mtoken, .int mvalue, .int mfaultKind, .int mfaultPlace, .ref a14, .ref a15, .int mgoal, .int mgoalDays, .int mgoalHearer, .ref a19, .ref a20, .int mleastOrder, .int mwordsMany, .ref a23, .ref a24, .ref a25, .ref a26, .ref a27, .ref a28])), (a1, .inl (g.2 0, 225, .inl mworld))]) := by
  refine Ct.of (by decide) (Nat.le_of_ble_eq_true rfl) ?_
  intro p e s m below meth c A ls FX hP hD hS hl
  obtain ⟨FC, hr, hlk, hKn, hA, hnm, hZ⟩ := id FX
  have FC : CallFix p m c cX12_thinksOf 3 s _ BIG RX12 := FC
  obtain ⟨hx, hb, hml, hown, hB⟩ := id FC
  have hl : lv_has ls 3 [(0, .ref h0), (1, .int p1), (2, .int p2)] := hl
  refine lv_aload_n hx hb dX12_thinksOf_0 rfl (lv_at hl 0 rfl) ?_
  refine g_get (C := RX12) (T := TX12) (N := 29) (ci := 12) (v := .ref a1) FC hKn hP i_X12 0 rfl rfl 1 (by decide) b_801 rfl dX12_thinksOf_1 ?_
  refine lv_bipush (v := 19) hx hb dX12_thinksOf_4 (by decide) ?_
  refine lv_bipush (v := 9) hx hb dX12_thinksOf_6 (by decide) ?_
  refine lv_iload_n hx hb dX12_thinksOf_8 rfl (lv_at hl 1 rfl) ?_
  refine lv_imul hx hb dX12_thinksOf_9 ?_
  have kc9 : (9 : Int32).toInt = 9 := by decide
  refine lv_topi (fun z1 e_z1 => ?_)
  have t_z1 : z1.toInt = 9 * p1.toInt := by rw [e_z1, fb_mulI (by rw [show (9 : Int32).toInt = 9 by decide]; omega) (by rw [show (9 : Int32).toInt = 9 by decide]; omega), show (9 : Int32).toInt = 9 by decide]
  refine lv_iadd hx hb dX12_thinksOf_10 ?_
  have kc19 : (19 : Int32).toInt = 19 := by decide
  refine lv_topi (fun z2 e_z2 => ?_)
  have t_z2 : z2.toInt = ((19 : Int32)).toInt + z1.toInt := by rw [e_z2]; exact fb_addI (by omega) (by omega)
  refine lv_iload_n hx hb dX12_thinksOf_11 rfl (lv_at hl 2 rfl) ?_
  refine lv_iadd hx hb dX12_thinksOf_12 ?_
  refine lv_topi (fun z3 e_z3 => ?_)
  have t_z3 : z3.toInt = z2.toInt + p2.toInt := by rw [e_z3]; exact fb_addI (by omega) (by omega)
  refine va_iald hx hb hKn.1 hP 1 0 rfl rfl (vp_in_iff.mpr ⟨by omega, by omega⟩) dX12_thinksOf_13 ?_
  refine lv_topi (fun z4 e_z4 => ?_)
  have t_z4 : 0 ≤ z4.toInt ∧ z4.toInt ≤ 99 := by rw [e_z4]; exact wk_g i_mworld.1 (by omega) (by omega)
  have q_z4 : z4.toInt = (mworld z3.toNatClampNeg).toInt := by rw [e_z4]
  exact rt_i FX ((fun k => match k with | 0 => z4 | _ => 0), (fun _ => fun _ => 0), (fun _ => fun _ => 0)) rfl (show 0 ≤ z4.toInt ∧ z4.toInt ≤ 99 by omega) (hP.sub [0, 1] rfl) (hD.sub [0, 1] (by decide) rfl) hS (Nat.le_of_ble_eq_true rfl) (Nat.le_of_ble_eq_true rfl) dX12_thinksOf_14
set_option maxRecDepth 100000 in
set_option maxHeartbeats 4000000 in
theorem k_X12_reckonsOf (l : Launch) (g : GG) (h0 : Nat) (a1 : Nat) (a2 : Nat) (a3 : Nat) (a4 : Nat) (a6 : Nat) (a14 : Nat) (a15 : Nat) (a19 : Nat) (a20 : Nat) (a23 : Nat) (a24 : Nat) (a25 : Nat) (a26 : Nat) (a27 : Nat) (a28 : Nat) (mthrown : Int32) (mtaped : Int32) (msize : Int32) (mat : Int32) (mfrom : Int32) (mtoken : Int32) (mvalue : Int32) (mfaultKind : Int32) (mfaultPlace : Int32) (mgoal : Int32) (mgoalDays : Int32) (mgoalHearer : Int32) (mleastOrder : Int32) (mwordsMany : Int32) (mworld : Nat → Int32) (p1 : Int32) (i_mtaped : 0 ≤ mtaped.toInt ∧ mtaped.toInt ≤ 900) (i_msize : 0 ≤ msize.toInt ∧ msize.toInt ≤ 900) (i_mat : 0 ≤ mat.toInt ∧ mat.toInt ≤ 900) (i_mfrom : 0 ≤ mfrom.toInt ∧ mfrom.toInt ≤ 900) (i_mtoken : 0 ≤ mtoken.toInt ∧ mtoken.toInt ≤ 4) (i_mvalue : 0 ≤ mvalue.toInt ∧ mvalue.toInt ≤ 99999) (i_mgoalHearer : 0 ≤ mgoalHearer.toInt ∧ mgoalHearer.toInt ≤ 3) (i_mwordsMany : 0 ≤ mwordsMany.toInt ∧ mwordsMany.toInt ≤ 10) (i_mworld : wod mworld) (i_p1 : 0 ≤ p1.toInt ∧ p1.toInt ≤ 3) : Ct l g yX12_reckonsOf cX12_reckonsOf 2 (some .int) { frames := 0, cells := 0, slots := 0, locals := 0 } [.ref h0, .int p1] [(h0, .inr (12, [.int mthrown, .ref a1, .ref a2, .ref a3, .ref a4, .int mtaped, .ref a6, .int msize, .int mat, .int mfrom, .int mtoken, .int mvalue, .int mfaultKind, .int mfaultPlace, .ref a14, .ref a15, .int mgoal, .int mgoalDays, .int mgoalHearer, .ref a19, .ref a20, .int mleastOrder, .int mwordsMany, .ref a23, .ref a24, .ref a25, .ref a26, .ref a27, .ref a28])), (a1, .inl (g.2 0, 225, .inl mworld))] (S := (Nat → Int32) × (Nat → Nat → Int32) × (Nat → Nat → Int64)) (fun u => some (.int (u.1 0))) (fun u => (0 ≤ (u.1 0).toInt ∧ (u.1 0).toInt ≤ 99)) (fun u => [(h0, .inr (12, [.int mthrown, .ref a1, .ref a2, .ref a3, .ref a4, .int mtaped, .ref a6, .int msize, .int mat, .int mfrom, .int mtoken, .int mvalue, .int mfaultKind, .int mfaultPlace, .ref a14, .ref a15, .int mgoal, .int mgoalDays, .int mgoalHearer, .ref a19, .ref a20, .int mleastOrder, .int mwordsMany, .ref a23, .ref a24, .ref a25, .ref a26, .ref a27, .ref a28])), (a1, .inl (g.2 0, 225, .inl mworld))]) := by
  refine Ct.of (by decide) (Nat.le_of_ble_eq_true rfl) ?_
  intro p e s m below meth c A ls FX hP hD hS hl
  obtain ⟨FC, hr, hlk, hKn, hA, hnm, hZ⟩ := id FX
  have FC : CallFix p m c cX12_reckonsOf 2 s _ BIG RX12 := FC
  obtain ⟨hx, hb, hml, hown, hB⟩ := id FC
  have hl : lv_has ls 2 [(0, .ref h0), (1, .int p1)] := hl
  refine lv_aload_n hx hb dX12_reckonsOf_0 rfl (lv_at hl 0 rfl) ?_
  refine g_get (C := RX12) (T := TX12) (N := 29) (ci := 12) (v := .ref a1) FC hKn hP i_X12 0 rfl rfl 1 (by decide) b_801 rfl dX12_reckonsOf_1 ?_
  refine lv_bipush (v := 19) hx hb dX12_reckonsOf_4 (by decide) ?_
  refine lv_bipush (v := 9) hx hb dX12_reckonsOf_6 (by decide) ?_
  refine lv_iload_n hx hb dX12_reckonsOf_8 rfl (lv_at hl 1 rfl) ?_
  refine lv_imul hx hb dX12_reckonsOf_9 ?_
  have kc9 : (9 : Int32).toInt = 9 := by decide
  refine lv_topi (fun z1 e_z1 => ?_)
  have t_z1 : z1.toInt = 9 * p1.toInt := by rw [e_z1, fb_mulI (by rw [show (9 : Int32).toInt = 9 by decide]; omega) (by rw [show (9 : Int32).toInt = 9 by decide]; omega), show (9 : Int32).toInt = 9 by decide]
  refine lv_iadd hx hb dX12_reckonsOf_10 ?_
  have kc19 : (19 : Int32).toInt = 19 := by decide
  refine lv_topi (fun z2 e_z2 => ?_)
  have t_z2 : z2.toInt = ((19 : Int32)).toInt + z1.toInt := by rw [e_z2]; exact fb_addI (by omega) (by omega)
  refine lv_bipush (v := 8) hx hb dX12_reckonsOf_11 (by decide) ?_
  refine lv_iadd hx hb dX12_reckonsOf_13 ?_
  have kc8 : (8 : Int32).toInt = 8 := by decide
  refine lv_topi (fun z3 e_z3 => ?_)
  have t_z3 : z3.toInt = z2.toInt + ((8 : Int32)).toInt := by rw [e_z3]; exact fb_addI (by omega) (by omega)
  refine va_iald hx hb hKn.1 hP 1 0 rfl rfl (vp_in_iff.mpr ⟨by omega, by omega⟩) dX12_reckonsOf_14 ?_
  refine lv_topi (fun z4 e_z4 => ?_)
  have t_z4 : 0 ≤ z4.toInt ∧ z4.toInt ≤ 99 := by rw [e_z4]; exact wk_g i_mworld.1 (by omega) (by omega)
  have q_z4 : z4.toInt = (mworld z3.toNatClampNeg).toInt := by rw [e_z4]
  exact rt_i FX ((fun k => match k with | 0 => z4 | _ => 0), (fun _ => fun _ => 0), (fun _ => fun _ => 0)) rfl (show 0 ≤ z4.toInt ∧ z4.toInt ≤ 99 by omega) (hP.sub [0, 1] rfl) (hD.sub [0, 1] (by decide) rfl) hS (Nat.le_of_ble_eq_true rfl) (Nat.le_of_ble_eq_true rfl) dX12_reckonsOf_15
set_option maxRecDepth 100000 in
set_option maxHeartbeats 4000000 in
theorem k_X12_statesOf (l : Launch) (g : GG) (h0 : Nat) (a1 : Nat) (a2 : Nat) (a3 : Nat) (a4 : Nat) (a6 : Nat) (a14 : Nat) (a15 : Nat) (a19 : Nat) (a20 : Nat) (a23 : Nat) (a24 : Nat) (a25 : Nat) (a26 : Nat) (a27 : Nat) (a28 : Nat) (mthrown : Int32) (mtaped : Int32) (msize : Int32) (mat : Int32) (mfrom : Int32) (mtoken : Int32) (mvalue : Int32) (mfaultKind : Int32) (mfaultPlace : Int32) (mgoal : Int32) (mgoalDays : Int32) (mgoalHearer : Int32) (mleastOrder : Int32) (mwordsMany : Int32) (mworld : Nat → Int32) (p1 : Int32) (i_mtaped : 0 ≤ mtaped.toInt ∧ mtaped.toInt ≤ 900) (i_msize : 0 ≤ msize.toInt ∧ msize.toInt ≤ 900) (i_mat : 0 ≤ mat.toInt ∧ mat.toInt ≤ 900) (i_mfrom : 0 ≤ mfrom.toInt ∧ mfrom.toInt ≤ 900) (i_mtoken : 0 ≤ mtoken.toInt ∧ mtoken.toInt ≤ 4) (i_mvalue : 0 ≤ mvalue.toInt ∧ mvalue.toInt ≤ 99999) (i_mgoalHearer : 0 ≤ mgoalHearer.toInt ∧ mgoalHearer.toInt ≤ 3) (i_mwordsMany : 0 ≤ mwordsMany.toInt ∧ mwordsMany.toInt ≤ 10) (i_mworld : wod mworld) (i_p1 : 0 ≤ p1.toInt ∧ p1.toInt ≤ 7) : Ct l g yX12_statesOf cX12_statesOf 2 (some .int) { frames := 0, cells := 0, slots := 0, locals := 0 } [.ref h0, .int p1] [(h0, .inr (12, [.int mthrown, .ref a1, .ref a2, .ref a3, .ref a4, .int mtaped, .ref a6, .int msize, .int mat, .int mfrom, .int mtoken, .int mvalue, .int mfaultKind, .int mfaultPlace, .ref a14, .ref a15, .int mgoal, .int mgoalDays, .int mgoalHearer, .ref a19, .ref a20, .int mleastOrder, .int mwordsMany, .ref a23, .ref a24, .ref a25, .ref a26, .ref a27, .ref a28])), (a1, .inl (g.2 0, 225, .inl mworld))] (S := (Nat → Int32) × (Nat → Nat → Int32) × (Nat → Nat → Int64)) (fun u => some (.int (u.1 0))) (fun u => (0 ≤ (u.1 0).toInt ∧ (u.1 0).toInt ≤ 255) ∧ (u.1 0 = ofF mworld p1) ∧ (p1.toInt < (mworld 6).toInt → 1 ≤ (u.1 0).toInt)) (fun u => [(h0, .inr (12, [.int mthrown, .ref a1, .ref a2, .ref a3, .ref a4, .int mtaped, .ref a6, .int msize, .int mat, .int mfrom, .int mtoken, .int mvalue, .int mfaultKind, .int mfaultPlace, .ref a14, .ref a15, .int mgoal, .int mgoalDays, .int mgoalHearer, .ref a19, .ref a20, .int mleastOrder, .int mwordsMany, .ref a23, .ref a24, .ref a25, .ref a26, .ref a27, .ref a28])), (a1, .inl (g.2 0, 225, .inl mworld))]) := by
  refine Ct.of (by decide) (Nat.le_of_ble_eq_true rfl) ?_
  intro p e s m below meth c A ls FX hP hD hS hl
  obtain ⟨FC, hr, hlk, hKn, hA, hnm, hZ⟩ := id FX
  have FC : CallFix p m c cX12_statesOf 2 s _ BIG RX12 := FC
  obtain ⟨hx, hb, hml, hown, hB⟩ := id FC
  have hl : lv_has ls 2 [(0, .ref h0), (1, .int p1)] := hl
  refine lv_aload_n hx hb dX12_statesOf_0 rfl (lv_at hl 0 rfl) ?_
  refine g_get (C := RX12) (T := TX12) (N := 29) (ci := 12) (v := .ref a1) FC hKn hP i_X12 0 rfl rfl 1 (by decide) b_801 rfl dX12_statesOf_1 ?_
  refine lv_bipush (v := 55) hx hb dX12_statesOf_4 (by decide) ?_
  refine lv_iconst (v := 2) hx hb dX12_statesOf_6 (by decide) ?_
  refine lv_iload_n hx hb dX12_statesOf_7 rfl (lv_at hl 1 rfl) ?_
  refine lv_imul hx hb dX12_statesOf_8 ?_
  have kc2 : (2 : Int32).toInt = 2 := by decide
  refine lv_topi (fun z1 e_z1 => ?_)
  have t_z1 : z1.toInt = 2 * p1.toInt := by rw [e_z1, fb_mulI (by rw [show (2 : Int32).toInt = 2 by decide]; omega) (by rw [show (2 : Int32).toInt = 2 by decide]; omega), show (2 : Int32).toInt = 2 by decide]
  refine lv_iadd hx hb dX12_statesOf_9 ?_
  have kc55 : (55 : Int32).toInt = 55 := by decide
  refine lv_topi (fun z2 e_z2 => ?_)
  have t_z2 : z2.toInt = ((55 : Int32)).toInt + z1.toInt := by rw [e_z2]; exact fb_addI (by omega) (by omega)
  refine lv_iconst (v := 1) hx hb dX12_statesOf_10 (by decide) ?_
  refine lv_iadd hx hb dX12_statesOf_11 ?_
  have kc1 : (1 : Int32).toInt = 1 := by decide
  refine lv_topi (fun z3 e_z3 => ?_)
  have t_z3 : z3.toInt = z2.toInt + ((1 : Int32)).toInt := by rw [e_z3]; exact fb_addI (by omega) (by omega)
  refine va_iald hx hb hKn.1 hP 1 0 rfl rfl (vp_in_iff.mpr ⟨by omega, by omega⟩) dX12_statesOf_12 ?_
  refine lv_topi (fun z4 e_z4 => ?_)
  have q_z4 : z4.toInt = (mworld z3.toNatClampNeg).toInt := by rw [e_z4]
  have b_z4 := of_b i_mworld.1 (w := p1) (by omega) (by omega)
  have x_z4 : z4 = ofF mworld p1 := by rw [e_z4, ixe (x := z3) (n := 56 + 2 * p1.toInt.toNat) (by omega)]; rfl
  rw [← x_z4] at b_z4
  exact rt_i FX ((fun k => match k with | 0 => z4 | _ => 0), (fun _ => fun _ => 0), (fun _ => fun _ => 0)) rfl ⟨(show 0 ≤ z4.toInt ∧ z4.toInt ≤ 255 by omega), (show z4 = ofF mworld p1 from x_z4), (show p1.toInt < (mworld 6).toInt → 1 ≤ (z4).toInt by omega)⟩ (hP.sub [0, 1] rfl) (hD.sub [0, 1] (by decide) rfl) hS (Nat.le_of_ble_eq_true rfl) (Nat.le_of_ble_eq_true rfl) dX12_statesOf_13
set_option maxRecDepth 100000 in
set_option maxHeartbeats 4000000 in
theorem k_X12_planMany (l : Launch) (g : GG) (h0 : Nat) (a1 : Nat) (a2 : Nat) (a3 : Nat) (a4 : Nat) (a6 : Nat) (a14 : Nat) (a15 : Nat) (a19 : Nat) (a20 : Nat) (a23 : Nat) (a24 : Nat) (a25 : Nat) (a26 : Nat) (a27 : Nat) (a28 : Nat) (mthrown : Int32) (mtaped : Int32) (msize : Int32) (mat : Int32) (mfrom : Int32) (mtoken : Int32) (mvalue : Int32) (mfaultKind : Int32) (mfaultPlace : Int32) (mgoal : Int32) (mgoalDays : Int32) (mgoalHearer : Int32) (mleastOrder : Int32) (mwordsMany : Int32) (mworld : Nat → Int32) (p1 : Int32) (i_mtaped : 0 ≤ mtaped.toInt ∧ mtaped.toInt ≤ 900) (i_msize : 0 ≤ msize.toInt ∧ msize.toInt ≤ 900) (i_mat : 0 ≤ mat.toInt ∧ mat.toInt ≤ 900) (i_mfrom : 0 ≤ mfrom.toInt ∧ mfrom.toInt ≤ 900) (i_mtoken : 0 ≤ mtoken.toInt ∧ mtoken.toInt ≤ 4) (i_mvalue : 0 ≤ mvalue.toInt ∧ mvalue.toInt ≤ 99999) (i_mgoalHearer : 0 ≤ mgoalHearer.toInt ∧ mgoalHearer.toInt ≤ 3) (i_mwordsMany : 0 ≤ mwordsMany.toInt ∧ mwordsMany.toInt ≤ 10) (i_mworld : wod mworld) (i_p1 : 0 ≤ p1.toInt ∧ p1.toInt ≤ 3) : Ct l g yX12_planMany cX12_planMany 2 (some .int) { frames := 0, cells := 0, slots := 0, locals := 0 } [.ref h0, .int p1] [(h0, .inr (12, [.int mthrown, .ref a1, .ref a2, .ref a3, .ref a4, .int mtaped, .ref a6, .int msize, .int mat, .int mfrom, .int mtoken, .int mvalue, .int mfaultKind, .int mfaultPlace, .ref a14, .ref a15, .int mgoal, .int mgoalDays, .int mgoalHearer, .ref a19, .ref a20, .int mleastOrder, .int mwordsMany, .ref a23, .ref a24, .ref a25, .ref a26, .ref a27, .ref a28])), (a1, .inl (g.2 0, 225, .inl mworld))] (S := (Nat → Int32) × (Nat → Nat → Int32) × (Nat → Nat → Int64)) (fun u => some (.int (u.1 0))) (fun u => (0 ≤ (u.1 0).toInt ∧ (u.1 0).toInt ≤ 5) ∧ (u.1 0 = pmF mworld p1)) (fun u => [(h0, .inr (12, [.int mthrown, .ref a1, .ref a2, .ref a3, .ref a4, .int mtaped, .ref a6, .int msize, .int mat, .int mfrom, .int mtoken, .int mvalue, .int mfaultKind, .int mfaultPlace, .ref a14, .ref a15, .int mgoal, .int mgoalDays, .int mgoalHearer, .ref a19, .ref a20, .int mleastOrder, .int mwordsMany, .ref a23, .ref a24, .ref a25, .ref a26, .ref a27, .ref a28])), (a1, .inl (g.2 0, 225, .inl mworld))]) := by
  refine Ct.of (by decide) (Nat.le_of_ble_eq_true rfl) ?_
  intro p e s m below meth c A ls FX hP hD hS hl
  obtain ⟨FC, hr, hlk, hKn, hA, hnm, hZ⟩ := id FX
  have FC : CallFix p m c cX12_planMany 2 s _ BIG RX12 := FC
  obtain ⟨hx, hb, hml, hown, hB⟩ := id FC
  have hl : lv_has ls 2 [(0, .ref h0), (1, .int p1)] := hl
  refine lv_aload_n hx hb dX12_planMany_0 rfl (lv_at hl 0 rfl) ?_
  refine g_get (C := RX12) (T := TX12) (N := 29) (ci := 12) (v := .ref a1) FC hKn hP i_X12 0 rfl rfl 1 (by decide) b_801 rfl dX12_planMany_1 ?_
  refine lv_bipush (v := 71) hx hb dX12_planMany_4 (by decide) ?_
  refine lv_bipush (v := 6) hx hb dX12_planMany_6 (by decide) ?_
  refine lv_iload_n hx hb dX12_planMany_8 rfl (lv_at hl 1 rfl) ?_
  refine lv_imul hx hb dX12_planMany_9 ?_
  have kc6 : (6 : Int32).toInt = 6 := by decide
  refine lv_topi (fun z1 e_z1 => ?_)
  have t_z1 : z1.toInt = 6 * p1.toInt := by rw [e_z1, fb_mulI (by rw [show (6 : Int32).toInt = 6 by decide]; omega) (by rw [show (6 : Int32).toInt = 6 by decide]; omega), show (6 : Int32).toInt = 6 by decide]
  refine lv_iadd hx hb dX12_planMany_10 ?_
  have kc71 : (71 : Int32).toInt = 71 := by decide
  refine lv_topi (fun z2 e_z2 => ?_)
  have t_z2 : z2.toInt = ((71 : Int32)).toInt + z1.toInt := by rw [e_z2]; exact fb_addI (by omega) (by omega)
  refine va_iald hx hb hKn.1 hP 1 0 rfl rfl (vp_in_iff.mpr ⟨by omega, by omega⟩) dX12_planMany_11 ?_
  refine lv_topi (fun z3 e_z3 => ?_)
  have q_z3 : z3.toInt = (mworld z2.toNatClampNeg).toInt := by rw [e_z3]
  have b_z3 := pm_b i_mworld.1 (q := p1) (by omega) (by omega)
  have x_z3 : z3 = pmF mworld p1 := by rw [e_z3, ixe (x := z2) (n := 71 + 6 * p1.toInt.toNat) (by omega)]; rfl
  rw [← x_z3] at b_z3
  exact rt_i FX ((fun k => match k with | 0 => z3 | _ => 0), (fun _ => fun _ => 0), (fun _ => fun _ => 0)) rfl ⟨(show 0 ≤ z3.toInt ∧ z3.toInt ≤ 5 by omega), (show z3 = pmF mworld p1 from x_z3)⟩ (hP.sub [0, 1] rfl) (hD.sub [0, 1] (by decide) rfl) hS (Nat.le_of_ble_eq_true rfl) (Nat.le_of_ble_eq_true rfl) dX12_planMany_12
set_option maxRecDepth 100000 in
set_option maxHeartbeats 4000000 in
theorem k_X12_planWord (l : Launch) (g : GG) (h0 : Nat) (a1 : Nat) (a2 : Nat) (a3 : Nat) (a4 : Nat) (a6 : Nat) (a14 : Nat) (a15 : Nat) (a19 : Nat) (a20 : Nat) (a23 : Nat) (a24 : Nat) (a25 : Nat) (a26 : Nat) (a27 : Nat) (a28 : Nat) (mthrown : Int32) (mtaped : Int32) (msize : Int32) (mat : Int32) (mfrom : Int32) (mtoken : Int32) (mvalue : Int32) (mfaultKind : Int32) (mfaultPlace : Int32) (mgoal : Int32) (mgoalDays : Int32) (mgoalHearer : Int32) (mleastOrder : Int32) (mwordsMany : Int32) (mworld : Nat → Int32) (p1 : Int32) (p2 : Int32) (i_mtaped : 0 ≤ mtaped.toInt ∧ mtaped.toInt ≤ 900) (i_msize : 0 ≤ msize.toInt ∧ msize.toInt ≤ 900) (i_mat : 0 ≤ mat.toInt ∧ mat.toInt ≤ 900) (i_mfrom : 0 ≤ mfrom.toInt ∧ mfrom.toInt ≤ 900) (i_mtoken : 0 ≤ mtoken.toInt ∧ mtoken.toInt ≤ 4) (i_mvalue : 0 ≤ mvalue.toInt ∧ mvalue.toInt ≤ 99999) (i_mgoalHearer : 0 ≤ mgoalHearer.toInt ∧ mgoalHearer.toInt ≤ 3) (i_mwordsMany : 0 ≤ mwordsMany.toInt ∧ mwordsMany.toInt ≤ 10) (i_mworld : wod mworld) (i_p1 : 0 ≤ p1.toInt ∧ p1.toInt ≤ 3) (i_p2 : 0 ≤ p2.toInt ∧ p2.toInt ≤ 4) (hpm : p2.toInt < (pmF mworld p1).toInt) : Ct l g yX12_planWord cX12_planWord 3 (some .int) { frames := 0, cells := 0, slots := 0, locals := 0 } [.ref h0, .int p1, .int p2] [(h0, .inr (12, [.int mthrown, .ref a1, .ref a2, .ref a3, .ref a4, .int mtaped, .ref a6, .int msize, .int mat, .int mfrom, .int mtoken, .int mvalue, .int mfaultKind, .int mfaultPlace, .ref a14, .ref a15, .int mgoal, .int mgoalDays, .int mgoalHearer, .ref a19, .ref a20, .int mleastOrder, .int mwordsMany, .ref a23, .ref a24, .ref a25, .ref a26, .ref a27, .ref a28])), (a1, .inl (g.2 0, 225, .inl mworld))] (S := (Nat → Int32) × (Nat → Nat → Int32) × (Nat → Nat → Int64)) (fun u => some (.int (u.1 0))) (fun u => (0 ≤ (u.1 0).toInt ∧ (u.1 0).toInt ≤ 7) ∧ (u.1 0 = pwF mworld p1 p2) ∧ ((u.1 0).toInt < (mworld 6).toInt)) (fun u => [(h0, .inr (12, [.int mthrown, .ref a1, .ref a2, .ref a3, .ref a4, .int mtaped, .ref a6, .int msize, .int mat, .int mfrom, .int mtoken, .int mvalue, .int mfaultKind, .int mfaultPlace, .ref a14, .ref a15, .int mgoal, .int mgoalDays, .int mgoalHearer, .ref a19, .ref a20, .int mleastOrder, .int mwordsMany, .ref a23, .ref a24, .ref a25, .ref a26, .ref a27, .ref a28])), (a1, .inl (g.2 0, 225, .inl mworld))]) := by
  refine Ct.of (by decide) (Nat.le_of_ble_eq_true rfl) ?_
  intro p e s m below meth c A ls FX hP hD hS hl
  obtain ⟨FC, hr, hlk, hKn, hA, hnm, hZ⟩ := id FX
  have FC : CallFix p m c cX12_planWord 3 s _ BIG RX12 := FC
  obtain ⟨hx, hb, hml, hown, hB⟩ := id FC
  have hl : lv_has ls 3 [(0, .ref h0), (1, .int p1), (2, .int p2)] := hl
  have h6 := wk_6 i_mworld.1
  refine lv_aload_n hx hb dX12_planWord_0 rfl (lv_at hl 0 rfl) ?_
  refine g_get (C := RX12) (T := TX12) (N := 29) (ci := 12) (v := .ref a1) FC hKn hP i_X12 0 rfl rfl 1 (by decide) b_801 rfl dX12_planWord_1 ?_
  refine lv_bipush (v := 71) hx hb dX12_planWord_4 (by decide) ?_
  refine lv_bipush (v := 6) hx hb dX12_planWord_6 (by decide) ?_
  refine lv_iload_n hx hb dX12_planWord_8 rfl (lv_at hl 1 rfl) ?_
  refine lv_imul hx hb dX12_planWord_9 ?_
  have kc6 : (6 : Int32).toInt = 6 := by decide
  refine lv_topi (fun z1 e_z1 => ?_)
  have t_z1 : z1.toInt = 6 * p1.toInt := by rw [e_z1, fb_mulI (by rw [show (6 : Int32).toInt = 6 by decide]; omega) (by rw [show (6 : Int32).toInt = 6 by decide]; omega), show (6 : Int32).toInt = 6 by decide]
  refine lv_iadd hx hb dX12_planWord_10 ?_
  have kc71 : (71 : Int32).toInt = 71 := by decide
  refine lv_topi (fun z2 e_z2 => ?_)
  have t_z2 : z2.toInt = ((71 : Int32)).toInt + z1.toInt := by rw [e_z2]; exact fb_addI (by omega) (by omega)
  refine lv_iconst (v := 1) hx hb dX12_planWord_11 (by decide) ?_
  refine lv_iadd hx hb dX12_planWord_12 ?_
  have kc1 : (1 : Int32).toInt = 1 := by decide
  refine lv_topi (fun z3 e_z3 => ?_)
  have t_z3 : z3.toInt = z2.toInt + ((1 : Int32)).toInt := by rw [e_z3]; exact fb_addI (by omega) (by omega)
  refine lv_iload_n hx hb dX12_planWord_13 rfl (lv_at hl 2 rfl) ?_
  refine lv_iadd hx hb dX12_planWord_14 ?_
  refine lv_topi (fun z4 e_z4 => ?_)
  have t_z4 : z4.toInt = z3.toInt + p2.toInt := by rw [e_z4]; exact fb_addI (by omega) (by omega)
  refine va_iald hx hb hKn.1 hP 1 0 rfl rfl (vp_in_iff.mpr ⟨by omega, by omega⟩) dX12_planWord_15 ?_
  refine lv_topi (fun z5 e_z5 => ?_)
  have q_z5 : z5.toInt = (mworld z4.toNatClampNeg).toInt := by rw [e_z5]
  have b_z5 := pw_b i_mworld.1 (q := p1) (i := p2) (by omega) (by omega) (by omega) (by omega)
  have x_z5 : z5 = pwF mworld p1 p2 := by rw [e_z5, ixe (x := z4) (n := 72 + 6 * p1.toInt.toNat + p2.toInt.toNat) (by omega)]; rfl
  rw [← x_z5] at b_z5
  exact rt_i FX ((fun k => match k with | 0 => z5 | _ => 0), (fun _ => fun _ => 0), (fun _ => fun _ => 0)) rfl ⟨(show 0 ≤ z5.toInt ∧ z5.toInt ≤ 7 by omega), (show z5 = pwF mworld p1 p2 from x_z5), (show (z5).toInt < (mworld 6).toInt by omega)⟩ (hP.sub [0, 1] rfl) (hD.sub [0, 1] (by decide) rfl) hS (Nat.le_of_ble_eq_true rfl) (Nat.le_of_ble_eq_true rfl) dX12_planWord_16
set_option maxRecDepth 100000 in
set_option maxHeartbeats 4000000 in
theorem k_X12_isTrue (l : Launch) (g : GG) (h0 : Nat) (a1 : Nat) (a2 : Nat) (a3 : Nat) (a4 : Nat) (a6 : Nat) (a14 : Nat) (a15 : Nat) (a19 : Nat) (a20 : Nat) (a23 : Nat) (a24 : Nat) (a25 : Nat) (a26 : Nat) (a27 : Nat) (a28 : Nat) (mthrown : Int32) (mtaped : Int32) (msize : Int32) (mat : Int32) (mfrom : Int32) (mtoken : Int32) (mvalue : Int32) (mfaultKind : Int32) (mfaultPlace : Int32) (mgoal : Int32) (mgoalDays : Int32) (mgoalHearer : Int32) (mleastOrder : Int32) (mwordsMany : Int32) (mworld : Nat → Int32) (p1 : Int32) (i_mtaped : 0 ≤ mtaped.toInt ∧ mtaped.toInt ≤ 900) (i_msize : 0 ≤ msize.toInt ∧ msize.toInt ≤ 900) (i_mat : 0 ≤ mat.toInt ∧ mat.toInt ≤ 900) (i_mfrom : 0 ≤ mfrom.toInt ∧ mfrom.toInt ≤ 900) (i_mtoken : 0 ≤ mtoken.toInt ∧ mtoken.toInt ≤ 4) (i_mvalue : 0 ≤ mvalue.toInt ∧ mvalue.toInt ≤ 99999) (i_mgoalHearer : 0 ≤ mgoalHearer.toInt ∧ mgoalHearer.toInt ≤ 3) (i_mwordsMany : 0 ≤ mwordsMany.toInt ∧ mwordsMany.toInt ≤ 10) (i_mworld : wod mworld) (i_p1 : 0 ≤ p1.toInt ∧ p1.toInt ≤ 8) : Ct l g yX12_isTrue cX12_isTrue 2 (some .boolean) { frames := 1, cells := 0, slots := 0, locals := 21 } [.ref h0, .int p1] [(h0, .inr (12, [.int mthrown, .ref a1, .ref a2, .ref a3, .ref a4, .int mtaped, .ref a6, .int msize, .int mat, .int mfrom, .int mtoken, .int mvalue, .int mfaultKind, .int mfaultPlace, .ref a14, .ref a15, .int mgoal, .int mgoalDays, .int mgoalHearer, .ref a19, .ref a20, .int mleastOrder, .int mwordsMany, .ref a23, .ref a24, .ref a25, .ref a26, .ref a27, .ref a28])), (a1, .inl (g.2 0, 225, .inl mworld))] (S := (Nat → Int32) × (Nat → Nat → Int32) × (Nat → Nat → Int64)) (fun u => some (.int (u.1 0))) (fun u => (0 ≤ (u.1 0).toInt ∧ (u.1 0).toInt ≤ 1)) (fun u => [(h0, .inr (12, [.int mthrown, .ref a1, .ref a2, .ref a3, .ref a4, .int mtaped, .ref a6, .int msize, .int mat, .int mfrom, .int mtoken, .int mvalue, .int mfaultKind, .int mfaultPlace, .ref a14, .ref a15, .int mgoal, .int mgoalDays, .int mgoalHearer, .ref a19, .ref a20, .int mleastOrder, .int mwordsMany, .ref a23, .ref a24, .ref a25, .ref a26, .ref a27, .ref a28])), (a1, .inl (g.2 0, 225, .inl mworld))]) := by
  refine Ct.of (by decide) (Nat.le_of_ble_eq_true rfl) ?_
  intro p e s m below meth c A ls FX hP hD hS hl
  obtain ⟨FC, hr, hlk, hKn, hA, hnm, hZ⟩ := id FX
  have FC : CallFix p m c cX12_isTrue 2 s _ BIG RX12 := FC
  obtain ⟨hx, hb, hml, hown, hB⟩ := id FC
  have hl : lv_has ls 2 [(0, .ref h0), (1, .int p1)] := hl
  refine lv_iload_n hx hb dX12_isTrue_0 rfl (lv_at hl 1 rfl) ?_
  refine lv_bipush (v := 8) hx hb dX12_isTrue_1 (by decide) ?_
  refine lv_icmp_eq (tgt := 24) hx hb dX12_isTrue_3 (by decide) (fun c1 => ?_) (fun c1 => ?_)
  · have c1 := k_eq (a := p1.toInt) (b := 8) rfl (by decide) c1
    refine lv_iconst (v := 1) hx hb dX12_isTrue_24 (by decide) ?_
    refine lv_goto (tgt := 29) hx hb dX12_isTrue_25 (by decide) ?_
    exact rt_z FX rfl ((fun k => match k with | 0 => (1 : Int32) | _ => 0), (fun _ => fun _ => 0), (fun _ => fun _ => 0)) rfl (show 0 ≤ ((1 : Int32)).toInt ∧ ((1 : Int32)).toInt ≤ 1 by decide) (hP.sub [0, 1] rfl) (hD.sub [0, 1] (by decide) rfl) hS (Nat.le_of_ble_eq_true rfl) (Nat.le_of_ble_eq_true rfl) dX12_isTrue_29
  · have c1 := k_ne (a := p1.toInt) (b := 8) rfl (by decide) c1
    refine lv_aload_n hx hb dX12_isTrue_6 rfl (lv_at hl 0 rfl) ?_
    refine lv_iload_n hx hb dX12_isTrue_7 rfl (lv_at hl 1 rfl) ?_
    refine call_V (As := [.int p1]) (rest := []) (wr := []) FC hKn hZ (k_X12_statesOf l g h0 a1 a2 a3 a4 a6 a14 a15 a19 a20 a23 a24 a25 a26 a27 a28 mthrown mtaped msize mat mfrom mtoken mvalue mfaultKind mfaultPlace mgoal mgoalDays mgoalHearer mleastOrder mwordsMany mworld p1 (by omega) (by omega) (by omega) (by omega) (by omega) (by omega) (by omega) (by omega) i_mworld (by omega)) m_yX12_statesOf b_848 (ci := 12) rfl rfl rfl hP hD hS hA [0, 1] [] rfl (by decide) rfl (by decide) (by decide) rfl hl.1 rfl (Nat.le_of_ble_eq_true rfl) dX12_isTrue_8 ⟨(Nat.le_of_ble_eq_true rfl), (Nat.le_of_ble_eq_true rfl)⟩ ⟨(Nat.le_of_ble_eq_true rfl), (Nat.le_of_ble_eq_true rfl)⟩ (fun u2 H locs q3 hP hD hS => ?_)
    obtain ⟨q3_0, q3_1, q3_2⟩ := q3
    have hP : va_P g.1 vwCl [(h0, .inr (12, [.int mthrown, .ref a1, .ref a2, .ref a3, .ref a4, .int mtaped, .ref a6, .int msize, .int mat, .int mfrom, .int mtoken, .int mvalue, .int mfaultKind, .int mfaultPlace, .ref a14, .ref a15, .int mgoal, .int mgoalDays, .int mgoalHearer, .ref a19, .ref a20, .int mleastOrder, .int mwordsMany, .ref a23, .ref a24, .ref a25, .ref a26, .ref a27, .ref a28])), (a1, .inl (g.2 0, 225, .inl mworld))] H := hP
    have hD : va_D A [(h0, .inr (12, [.int mthrown, .ref a1, .ref a2, .ref a3, .ref a4, .int mtaped, .ref a6, .int msize, .int mat, .int mfrom, .int mtoken, .int mvalue, .int mfaultKind, .int mfaultPlace, .ref a14, .ref a15, .int mgoal, .int mgoalDays, .int mgoalHearer, .ref a19, .ref a20, .int mleastOrder, .int mwordsMany, .ref a23, .ref a24, .ref a25, .ref a26, .ref a27, .ref a28])), (a1, .inl (g.2 0, 225, .inl mworld))] := hD
    refine W.eq (g2 := F0 m 11 ls [.int (u2.1 0)]) rfl ?_
    rw [q3_1] at q3_0
    rw [q3_1] at q3_2
    refine tp_i (v := ofF mworld p1) q3_1 ?_
    refine lv_aload_n hx hb dX12_isTrue_11 rfl (lv_at hl 0 rfl) ?_
    refine g_get (C := RX12) (T := TX12) (N := 29) (ci := 12) (v := .ref a1) FC hKn hP i_X12 0 rfl rfl 1 (by decide) b_801 rfl dX12_isTrue_12 ?_
    refine lv_iconst (v := 1) hx hb dX12_isTrue_15 (by decide) ?_
    refine va_iald hx hb hKn.1 hP 1 0 rfl rfl (by unfold vp_in; decide) dX12_isTrue_16 ?_
    have kc1 : (1 : Int32).toInt = 1 := by decide
    refine lv_topi (fun z4 e_z4 => ?_)
    have t_z4 : 0 ≤ z4.toInt ∧ z4.toInt ≤ 7 := by rw [e_z4]; exact wk_1 i_mworld.1
    have q_z4 : z4.toInt = (mworld 1).toInt := by rw [e_z4]; rfl
    refine call_S (As := [.int (ofF mworld p1), .int z4]) (rest := []) (wr := [(h0, .inr (12, [.int mthrown, .ref a1, .ref a2, .ref a3, .ref a4, .int mtaped, .ref a6, .int msize, .int mat, .int mfrom, .int mtoken, .int mvalue, .int mfaultKind, .int mfaultPlace, .ref a14, .ref a15, .int mgoal, .int mgoalDays, .int mgoalHearer, .ref a19, .ref a20, .int mleastOrder, .int mwordsMany, .ref a23, .ref a24, .ref a25, .ref a26, .ref a27, .ref a28])), (a1, .inl (g.2 0, 225, .inl mworld))]) FC hKn hZ (k_X12_bit l g (ofF mworld p1) z4) m_yX12_bit b_849 hP hD hS hA [] [0, 1] rfl (by decide) rfl (by decide) (by decide) rfl hl.1 rfl (Nat.le_of_ble_eq_true rfl) dX12_isTrue_17 ⟨(Nat.le_of_ble_eq_true rfl), (Nat.le_of_ble_eq_true rfl)⟩ ⟨(Nat.le_of_ble_eq_true rfl), (Nat.le_of_ble_eq_true rfl)⟩ (fun u5 H locs q6 hP hD hS => ?_)
    obtain ⟨q6_0, q6_1⟩ := q6
    have hP : va_P g.1 vwCl [(h0, .inr (12, [.int mthrown, .ref a1, .ref a2, .ref a3, .ref a4, .int mtaped, .ref a6, .int msize, .int mat, .int mfrom, .int mtoken, .int mvalue, .int mfaultKind, .int mfaultPlace, .ref a14, .ref a15, .int mgoal, .int mgoalDays, .int mgoalHearer, .ref a19, .ref a20, .int mleastOrder, .int mwordsMany, .ref a23, .ref a24, .ref a25, .ref a26, .ref a27, .ref a28])), (a1, .inl (g.2 0, 225, .inl mworld))] H := hP
    have hD : va_D A [(h0, .inr (12, [.int mthrown, .ref a1, .ref a2, .ref a3, .ref a4, .int mtaped, .ref a6, .int msize, .int mat, .int mfrom, .int mtoken, .int mvalue, .int mfaultKind, .int mfaultPlace, .ref a14, .ref a15, .int mgoal, .int mgoalDays, .int mgoalHearer, .ref a19, .ref a20, .int mleastOrder, .int mwordsMany, .ref a23, .ref a24, .ref a25, .ref a26, .ref a27, .ref a28])), (a1, .inl (g.2 0, 225, .inl mworld))] := hD
    refine W.eq (g2 := F0 m 20 ls [.int (u5.1 0)]) rfl ?_
    rw [q6_1] at q6_0
    refine tp_i (v := bitF (ofF mworld p1) z4) q6_1 ?_
    refine lv_iconst (v := 1) hx hb dX12_isTrue_20 (by decide) ?_
    refine lv_icmp_ne (tgt := 28) hx hb dX12_isTrue_21 (by decide) (fun c7 => ?_) (fun c7 => ?_)
    · have c7 := k_ne (a := (bitF (ofF mworld p1) z4).toInt) (b := 1) rfl (by decide) c7
      refine lv_iconst (v := 0) hx hb dX12_isTrue_28 (by decide) ?_
      exact rt_z FX rfl ((fun k => match k with | 0 => (0 : Int32) | _ => 0), (fun _ => fun _ => 0), (fun _ => fun _ => 0)) rfl (show 0 ≤ ((0 : Int32)).toInt ∧ ((0 : Int32)).toInt ≤ 1 by decide) (hP.sub [0, 1] rfl) (hD.sub [0, 1] (by decide) rfl) hS (Nat.le_of_ble_eq_true rfl) (Nat.le_of_ble_eq_true rfl) dX12_isTrue_29
    · have c7 := k_eq (a := (bitF (ofF mworld p1) z4).toInt) (b := 1) rfl (by decide) c7
      refine lv_iconst (v := 1) hx hb dX12_isTrue_24 (by decide) ?_
      refine lv_goto (tgt := 29) hx hb dX12_isTrue_25 (by decide) ?_
      exact rt_z FX rfl ((fun k => match k with | 0 => (1 : Int32) | _ => 0), (fun _ => fun _ => 0), (fun _ => fun _ => 0)) rfl (show 0 ≤ ((1 : Int32)).toInt ∧ ((1 : Int32)).toInt ≤ 1 by decide) (hP.sub [0, 1] rfl) (hD.sub [0, 1] (by decide) rfl) hS (Nat.le_of_ble_eq_true rfl) (Nat.le_of_ble_eq_true rfl) dX12_isTrue_29
set_option maxRecDepth 100000 in
set_option maxHeartbeats 4000000 in
theorem k_X12_shameOf (l : Launch) (g : GG) (h0 : Nat) (a1 : Nat) (a2 : Nat) (a3 : Nat) (a4 : Nat) (a6 : Nat) (a14 : Nat) (a15 : Nat) (a19 : Nat) (a20 : Nat) (a23 : Nat) (a24 : Nat) (a25 : Nat) (a26 : Nat) (a27 : Nat) (a28 : Nat) (mthrown : Int32) (mtaped : Int32) (msize : Int32) (mat : Int32) (mfrom : Int32) (mtoken : Int32) (mvalue : Int32) (mfaultKind : Int32) (mfaultPlace : Int32) (mgoal : Int32) (mgoalDays : Int32) (mgoalHearer : Int32) (mleastOrder : Int32) (mwordsMany : Int32) (mworld : Nat → Int32) (p1 : Int32) (i_mtaped : 0 ≤ mtaped.toInt ∧ mtaped.toInt ≤ 900) (i_msize : 0 ≤ msize.toInt ∧ msize.toInt ≤ 900) (i_mat : 0 ≤ mat.toInt ∧ mat.toInt ≤ 900) (i_mfrom : 0 ≤ mfrom.toInt ∧ mfrom.toInt ≤ 900) (i_mtoken : 0 ≤ mtoken.toInt ∧ mtoken.toInt ≤ 4) (i_mvalue : 0 ≤ mvalue.toInt ∧ mvalue.toInt ≤ 99999) (i_mgoalHearer : 0 ≤ mgoalHearer.toInt ∧ mgoalHearer.toInt ≤ 3) (i_mwordsMany : 0 ≤ mwordsMany.toInt ∧ mwordsMany.toInt ≤ 10) (i_mworld : wod mworld) (i_p1 : 0 ≤ p1.toInt ∧ p1.toInt ≤ 8) : Ct l g yX12_shameOf cX12_shameOf 2 (some .int) { frames := 2, cells := 0, slots := 0, locals := 42 } [.ref h0, .int p1] [(h0, .inr (12, [.int mthrown, .ref a1, .ref a2, .ref a3, .ref a4, .int mtaped, .ref a6, .int msize, .int mat, .int mfrom, .int mtoken, .int mvalue, .int mfaultKind, .int mfaultPlace, .ref a14, .ref a15, .int mgoal, .int mgoalDays, .int mgoalHearer, .ref a19, .ref a20, .int mleastOrder, .int mwordsMany, .ref a23, .ref a24, .ref a25, .ref a26, .ref a27, .ref a28])), (a1, .inl (g.2 0, 225, .inl mworld))] (S := (Nat → Int32) × (Nat → Nat → Int32) × (Nat → Nat → Int64)) (fun u => some (.int (u.1 0))) (fun u => True) (fun u => [(h0, .inr (12, [.int mthrown, .ref a1, .ref a2, .ref a3, .ref a4, .int mtaped, .ref a6, .int msize, .int mat, .int mfrom, .int mtoken, .int mvalue, .int mfaultKind, .int mfaultPlace, .ref a14, .ref a15, .int mgoal, .int mgoalDays, .int mgoalHearer, .ref a19, .ref a20, .int mleastOrder, .int mwordsMany, .ref a23, .ref a24, .ref a25, .ref a26, .ref a27, .ref a28])), (a1, .inl (g.2 0, 225, .inl mworld))]) := by
  refine Ct.of (by decide) (Nat.le_of_ble_eq_true rfl) ?_
  intro p e s m below meth c A ls FX hP hD hS hl
  obtain ⟨FC, hr, hlk, hKn, hA, hnm, hZ⟩ := id FX
  have FC : CallFix p m c cX12_shameOf 2 s _ BIG RX12 := FC
  obtain ⟨hx, hb, hml, hown, hB⟩ := id FC
  have hl : lv_has ls 2 [(0, .ref h0), (1, .int p1)] := hl
  refine lv_aload_n hx hb dX12_shameOf_0 rfl (lv_at hl 0 rfl) ?_
  refine lv_iload_n hx hb dX12_shameOf_1 rfl (lv_at hl 1 rfl) ?_
  refine call_V (As := [.int p1]) (rest := []) (wr := []) FC hKn hZ (k_X12_isTrue l g h0 a1 a2 a3 a4 a6 a14 a15 a19 a20 a23 a24 a25 a26 a27 a28 mthrown mtaped msize mat mfrom mtoken mvalue mfaultKind mfaultPlace mgoal mgoalDays mgoalHearer mleastOrder mwordsMany mworld p1 (by omega) (by omega) (by omega) (by omega) (by omega) (by omega) (by omega) (by omega) i_mworld (by omega)) m_yX12_isTrue b_850 (ci := 12) rfl rfl rfl hP hD hS hA [0, 1] [] rfl (by decide) rfl (by decide) (by decide) rfl hl.1 rfl (Nat.le_of_ble_eq_true rfl) dX12_shameOf_2 ⟨(Nat.le_of_ble_eq_true rfl), (Nat.le_of_ble_eq_true rfl)⟩ ⟨(Nat.le_of_ble_eq_true rfl), (Nat.le_of_ble_eq_true rfl)⟩ (fun u1 H locs q2 hP hD hS => ?_)
  have q2_0 : 0 ≤ (u1.1 0).toInt ∧ (u1.1 0).toInt ≤ 1 := q2
  have hP : va_P g.1 vwCl [(h0, .inr (12, [.int mthrown, .ref a1, .ref a2, .ref a3, .ref a4, .int mtaped, .ref a6, .int msize, .int mat, .int mfrom, .int mtoken, .int mvalue, .int mfaultKind, .int mfaultPlace, .ref a14, .ref a15, .int mgoal, .int mgoalDays, .int mgoalHearer, .ref a19, .ref a20, .int mleastOrder, .int mwordsMany, .ref a23, .ref a24, .ref a25, .ref a26, .ref a27, .ref a28])), (a1, .inl (g.2 0, 225, .inl mworld))] H := hP
  have hD : va_D A [(h0, .inr (12, [.int mthrown, .ref a1, .ref a2, .ref a3, .ref a4, .int mtaped, .ref a6, .int msize, .int mat, .int mfrom, .int mtoken, .int mvalue, .int mfaultKind, .int mfaultPlace, .ref a14, .ref a15, .int mgoal, .int mgoalDays, .int mgoalHearer, .ref a19, .ref a20, .int mleastOrder, .int mwordsMany, .ref a23, .ref a24, .ref a25, .ref a26, .ref a27, .ref a28])), (a1, .inl (g.2 0, 225, .inl mworld))] := hD
  refine W.eq (g2 := F0 m 5 ls [.int (u1.1 0)]) rfl ?_
  refine lv_if_eq (tgt := 12) hx hb dX12_shameOf_5 (by decide) (fun c3 => ?_) (fun c3 => ?_)
  · have c3 := k_eq (a := (u1.1 0).toInt) (b := 0) rfl (by decide) c3
    refine lv_aload_n hx hb dX12_shameOf_12 rfl (lv_at hl 0 rfl) ?_
    refine g_get (C := RX12) (T := TX12) (N := 29) (ci := 12) (v := .ref a1) FC hKn hP i_X12 0 rfl rfl 1 (by decide) b_801 rfl dX12_shameOf_13 ?_
    refine lv_bipush (v := 55) hx hb dX12_shameOf_16 (by decide) ?_
    refine lv_iconst (v := 2) hx hb dX12_shameOf_18 (by decide) ?_
    refine lv_iload_n hx hb dX12_shameOf_19 rfl (lv_at hl 1 rfl) ?_
    refine lv_imul hx hb dX12_shameOf_20 ?_
    have kc2 : (2 : Int32).toInt = 2 := by decide
    refine lv_topi (fun z4 e_z4 => ?_)
    have t_z4 : z4.toInt = 2 * p1.toInt := by rw [e_z4, fb_mulI (by rw [show (2 : Int32).toInt = 2 by decide]; omega) (by rw [show (2 : Int32).toInt = 2 by decide]; omega), show (2 : Int32).toInt = 2 by decide]
    refine lv_iadd hx hb dX12_shameOf_21 ?_
    have kc55 : (55 : Int32).toInt = 55 := by decide
    refine lv_topi (fun z5 e_z5 => ?_)
    have t_z5 : z5.toInt = ((55 : Int32)).toInt + z4.toInt := by rw [e_z5]; exact fb_addI (by omega) (by omega)
    refine lv_iconst (v := 0) hx hb dX12_shameOf_22 (by decide) ?_
    refine lv_iadd hx hb dX12_shameOf_23 ?_
    have kc0 : (0 : Int32).toInt = 0 := by decide
    refine lv_topi (fun z6 e_z6 => ?_)
    have t_z6 : z6.toInt = z5.toInt + ((0 : Int32)).toInt := by rw [e_z6]; exact fb_addI (by omega) (by omega)
    refine va_iald hx hb hKn.1 hP 1 0 rfl rfl (vp_in_iff.mpr ⟨by omega, by omega⟩) dX12_shameOf_24 ?_
    refine lv_topi (fun z7 e_z7 => ?_)
    have q_z7 : z7.toInt = (mworld z6.toNatClampNeg).toInt := by rw [e_z7]
    exact rt_i FX ((fun k => match k with | 0 => z7 | _ => 0), (fun _ => fun _ => 0), (fun _ => fun _ => 0)) rfl trivial (hP.sub [0, 1] rfl) (hD.sub [0, 1] (by decide) rfl) hS (Nat.le_of_ble_eq_true rfl) (Nat.le_of_ble_eq_true rfl) dX12_shameOf_25
  · have c3 := k_ne (a := (u1.1 0).toInt) (b := 0) rfl (by decide) c3
    refine lv_iconst (v := 0) hx hb dX12_shameOf_8 (by decide) ?_
    refine lv_goto (tgt := 25) hx hb dX12_shameOf_9 (by decide) ?_
    exact rt_i FX ((fun k => match k with | 0 => (0 : Int32) | _ => 0), (fun _ => fun _ => 0), (fun _ => fun _ => 0)) rfl trivial (hP.sub [0, 1] rfl) (hD.sub [0, 1] (by decide) rfl) hS (Nat.le_of_ble_eq_true rfl) (Nat.le_of_ble_eq_true rfl) dX12_shameOf_25
set_option maxRecDepth 100000 in
set_option maxHeartbeats 4000000 in
theorem k_X12_behindOf (l : Launch) (g : GG) (h0 : Nat) (a1 : Nat) (a2 : Nat) (a3 : Nat) (a4 : Nat) (a6 : Nat) (a14 : Nat) (a15 : Nat) (a19 : Nat) (a20 : Nat) (a23 : Nat) (a24 : Nat) (a25 : Nat) (a26 : Nat) (a27 : Nat) (a28 : Nat) (mthrown : Int32) (mtaped : Int32) (msize : Int32) (mat : Int32) (mfrom : Int32) (mtoken : Int32) (mvalue : Int32) (mfaultKind : Int32) (mfaultPlace : Int32) (mgoal : Int32) (mgoalDays : Int32) (mgoalHearer : Int32) (mleastOrder : Int32) (mwordsMany : Int32) (mworld : Nat → Int32) (p1 : Int32) (p2 : Int32) (i_mtaped : 0 ≤ mtaped.toInt ∧ mtaped.toInt ≤ 900) (i_msize : 0 ≤ msize.toInt ∧ msize.toInt ≤ 900) (i_mat : 0 ≤ mat.toInt ∧ mat.toInt ≤ 900) (i_mfrom : 0 ≤ mfrom.toInt ∧ mfrom.toInt ≤ 900) (i_mtoken : 0 ≤ mtoken.toInt ∧ mtoken.toInt ≤ 4) (i_mvalue : 0 ≤ mvalue.toInt ∧ mvalue.toInt ≤ 99999) (i_mgoalHearer : 0 ≤ mgoalHearer.toInt ∧ mgoalHearer.toInt ≤ 3) (i_mwordsMany : 0 ≤ mwordsMany.toInt ∧ mwordsMany.toInt ≤ 10) (i_mworld : wod mworld) (i_p1 : 1 ≤ p1.toInt ∧ p1.toInt ≤ 255) (i_p2 : 0 ≤ p2.toInt ∧ p2.toInt ≤ 8) (htd2 : p2.toInt = 8 ∨ (0 ≤ p2.toInt ∧ p2.toInt < (mworld 6).toInt)) : Ct l g yX12_behindOf cX12_behindOf 4 (some .int) { frames := 1, cells := 0, slots := 0, locals := 21 } [.ref h0, .int p1, .int p2] [(h0, .inr (12, [.int mthrown, .ref a1, .ref a2, .ref a3, .ref a4, .int mtaped, .ref a6, .int msize, .int mat, .int mfrom, .int mtoken, .int mvalue, .int mfaultKind, .int mfaultPlace, .ref a14, .ref a15, .int mgoal, .int mgoalDays, .int mgoalHearer, .ref a19, .ref a20, .int mleastOrder, .int mwordsMany, .ref a23, .ref a24, .ref a25, .ref a26, .ref a27, .ref a28])), (a1, .inl (g.2 0, 225, .inl mworld))] (S := (Nat → Int32) × (Nat → Nat → Int32) × (Nat → Nat → Int64)) (fun u => some (.int (u.1 0))) (fun u => (1 ≤ (u.1 0).toInt ∧ (u.1 0).toInt ≤ 255)) (fun u => [(h0, .inr (12, [.int mthrown, .ref a1, .ref a2, .ref a3, .ref a4, .int mtaped, .ref a6, .int msize, .int mat, .int mfrom, .int mtoken, .int mvalue, .int mfaultKind, .int mfaultPlace, .ref a14, .ref a15, .int mgoal, .int mgoalDays, .int mgoalHearer, .ref a19, .ref a20, .int mleastOrder, .int mwordsMany, .ref a23, .ref a24, .ref a25, .ref a26, .ref a27, .ref a28])), (a1, .inl (g.2 0, 225, .inl mworld))]) := by
  refine Ct.of (by decide) (Nat.le_of_ble_eq_true rfl) ?_
  intro p e s m below meth c A ls FX hP hD hS hl
  obtain ⟨FC, hr, hlk, hKn, hA, hnm, hZ⟩ := id FX
  have FC : CallFix p m c cX12_behindOf 4 s _ BIG RX12 := FC
  obtain ⟨hx, hb, hml, hown, hB⟩ := id FC
  have hl : lv_has ls 4 [(0, .ref h0), (1, .int p1), (2, .int p2)] := hl
  have h6 := wk_6 i_mworld.1
  refine lv_iload_n hx hb dX12_behindOf_0 rfl (lv_at hl 2 rfl) ?_
  refine lv_bipush (v := 8) hx hb dX12_behindOf_1 (by decide) ?_
  refine lv_icmp_ne (tgt := 8) hx hb dX12_behindOf_3 (by decide) (fun c1 => ?_) (fun c1 => ?_)
  · have c1 := k_ne (a := p2.toInt) (b := 8) rfl (by decide) c1
    refine lv_iload_n hx hb dX12_behindOf_8 rfl (lv_at hl 1 rfl) ?_
    refine lv_aload_n hx hb dX12_behindOf_9 rfl (lv_at hl 0 rfl) ?_
    refine lv_iload_n hx hb dX12_behindOf_10 rfl (lv_at hl 2 rfl) ?_
    refine call_V (As := [.int p2]) (rest := [.int p1]) (wr := []) FC hKn hZ (k_X12_statesOf l g h0 a1 a2 a3 a4 a6 a14 a15 a19 a20 a23 a24 a25 a26 a27 a28 mthrown mtaped msize mat mfrom mtoken mvalue mfaultKind mfaultPlace mgoal mgoalDays mgoalHearer mleastOrder mwordsMany mworld p2 (by omega) (by omega) (by omega) (by omega) (by omega) (by omega) (by omega) (by omega) i_mworld (by omega)) m_yX12_statesOf b_848 (ci := 12) rfl rfl rfl hP hD hS hA [0, 1] [] rfl (by decide) rfl (by decide) (by decide) rfl hl.1 rfl (Nat.le_of_ble_eq_true rfl) dX12_behindOf_11 ⟨(Nat.le_of_ble_eq_true rfl), (Nat.le_of_ble_eq_true rfl)⟩ ⟨(Nat.le_of_ble_eq_true rfl), (Nat.le_of_ble_eq_true rfl)⟩ (fun u2 H locs q3 hP hD hS => ?_)
    obtain ⟨q3_0, q3_1, q3_2⟩ := q3
    have hP : va_P g.1 vwCl [(h0, .inr (12, [.int mthrown, .ref a1, .ref a2, .ref a3, .ref a4, .int mtaped, .ref a6, .int msize, .int mat, .int mfrom, .int mtoken, .int mvalue, .int mfaultKind, .int mfaultPlace, .ref a14, .ref a15, .int mgoal, .int mgoalDays, .int mgoalHearer, .ref a19, .ref a20, .int mleastOrder, .int mwordsMany, .ref a23, .ref a24, .ref a25, .ref a26, .ref a27, .ref a28])), (a1, .inl (g.2 0, 225, .inl mworld))] H := hP
    have hD : va_D A [(h0, .inr (12, [.int mthrown, .ref a1, .ref a2, .ref a3, .ref a4, .int mtaped, .ref a6, .int msize, .int mat, .int mfrom, .int mtoken, .int mvalue, .int mfaultKind, .int mfaultPlace, .ref a14, .ref a15, .int mgoal, .int mgoalDays, .int mgoalHearer, .ref a19, .ref a20, .int mleastOrder, .int mwordsMany, .ref a23, .ref a24, .ref a25, .ref a26, .ref a27, .ref a28])), (a1, .inl (g.2 0, 225, .inl mworld))] := hD
    refine W.eq (g2 := F0 m 14 ls [.int (u2.1 0), .int p1]) rfl ?_
    rw [q3_1] at q3_0
    rw [q3_1] at q3_2
    refine tp_i (v := ofF mworld p2) q3_1 ?_
    refine lv_iand hx hb dX12_behindOf_14 ?_
    refine lv_topi (fun z4 e_z4 => ?_)
    have t_z4 : 0 ≤ z4.toInt ∧ z4.toInt ≤ 255 := by rw [e_z4]; exact and_l (by omega) (by omega)
    refine lv_istore_n (lv' := [(3, .int z4), (0, .ref h0), (1, .int p1), (2, .int p2)]) hx hb dX12_behindOf_15 rfl hl (by decide) rfl (fun ls hl => ?_)
    refine lv_iload_n hx hb dX12_behindOf_16 rfl (lv_at hl 0 rfl) ?_
    refine lv_if_ne (tgt := 28) hx hb dX12_behindOf_17 (by decide) (fun c5 => ?_) (fun c5 => ?_)
    · have c5 := k_ne (a := z4.toInt) (b := 0) rfl (by decide) c5
      refine lv_iload_n hx hb dX12_behindOf_28 rfl (lv_at hl 0 rfl) ?_
      exact rt_i FX ((fun k => match k with | 0 => z4 | _ => 0), (fun _ => fun _ => 0), (fun _ => fun _ => 0)) rfl (show 1 ≤ z4.toInt ∧ z4.toInt ≤ 255 by omega) (hP.sub [0, 1] rfl) (hD.sub [0, 1] (by decide) rfl) hS (Nat.le_of_ble_eq_true rfl) (Nat.le_of_ble_eq_true rfl) dX12_behindOf_29
    · have c5 := k_eq (a := z4.toInt) (b := 0) rfl (by decide) c5
      refine lv_aload_n hx hb dX12_behindOf_20 rfl (lv_at hl 1 rfl) ?_
      refine lv_iload_n hx hb dX12_behindOf_21 rfl (lv_at hl 3 rfl) ?_
      refine call_V (As := [.int p2]) (rest := []) (wr := []) FC hKn hZ (k_X12_statesOf l g h0 a1 a2 a3 a4 a6 a14 a15 a19 a20 a23 a24 a25 a26 a27 a28 mthrown mtaped msize mat mfrom mtoken mvalue mfaultKind mfaultPlace mgoal mgoalDays mgoalHearer mleastOrder mwordsMany mworld p2 (by omega) (by omega) (by omega) (by omega) (by omega) (by omega) (by omega) (by omega) i_mworld (by omega)) m_yX12_statesOf b_848 (ci := 12) rfl rfl rfl hP hD hS hA [0, 1] [] rfl (by decide) rfl (by decide) (by decide) rfl hl.1 rfl (Nat.le_of_ble_eq_true rfl) dX12_behindOf_22 ⟨(Nat.le_of_ble_eq_true rfl), (Nat.le_of_ble_eq_true rfl)⟩ ⟨(Nat.le_of_ble_eq_true rfl), (Nat.le_of_ble_eq_true rfl)⟩ (fun u6 H locs q7 hP hD hS => ?_)
      obtain ⟨q7_0, q7_1, q7_2⟩ := q7
      have hP : va_P g.1 vwCl [(h0, .inr (12, [.int mthrown, .ref a1, .ref a2, .ref a3, .ref a4, .int mtaped, .ref a6, .int msize, .int mat, .int mfrom, .int mtoken, .int mvalue, .int mfaultKind, .int mfaultPlace, .ref a14, .ref a15, .int mgoal, .int mgoalDays, .int mgoalHearer, .ref a19, .ref a20, .int mleastOrder, .int mwordsMany, .ref a23, .ref a24, .ref a25, .ref a26, .ref a27, .ref a28])), (a1, .inl (g.2 0, 225, .inl mworld))] H := hP
      have hD : va_D A [(h0, .inr (12, [.int mthrown, .ref a1, .ref a2, .ref a3, .ref a4, .int mtaped, .ref a6, .int msize, .int mat, .int mfrom, .int mtoken, .int mvalue, .int mfaultKind, .int mfaultPlace, .ref a14, .ref a15, .int mgoal, .int mgoalDays, .int mgoalHearer, .ref a19, .ref a20, .int mleastOrder, .int mwordsMany, .ref a23, .ref a24, .ref a25, .ref a26, .ref a27, .ref a28])), (a1, .inl (g.2 0, 225, .inl mworld))] := hD
      refine W.eq (g2 := F0 m 25 ls [.int (u6.1 0)]) rfl ?_
      rw [q7_1] at q7_0
      rw [q7_1] at q7_2
      refine tp_i (v := ofF mworld p2) q7_1 ?_
      refine lv_goto (tgt := 29) hx hb dX12_behindOf_25 (by decide) ?_
      exact rt_i FX ((fun k => match k with | 0 => ofF mworld p2 | _ => 0), (fun _ => fun _ => 0), (fun _ => fun _ => 0)) rfl (show 1 ≤ (ofF mworld p2).toInt ∧ (ofF mworld p2).toInt ≤ 255 by omega) (hP.sub [0, 1] rfl) (hD.sub [0, 1] (by decide) rfl) hS (Nat.le_of_ble_eq_true rfl) (Nat.le_of_ble_eq_true rfl) dX12_behindOf_29
  · have c1 := k_eq (a := p2.toInt) (b := 8) rfl (by decide) c1
    refine lv_iload_n hx hb dX12_behindOf_6 rfl (lv_at hl 1 rfl) ?_
    exact rt_i FX ((fun k => match k with | 0 => p1 | _ => 0), (fun _ => fun _ => 0), (fun _ => fun _ => 0)) rfl (show 1 ≤ p1.toInt ∧ p1.toInt ≤ 255 by omega) (hP.sub [0, 1] rfl) (hD.sub [0, 1] (by decide) rfl) hS (Nat.le_of_ble_eq_true rfl) (Nat.le_of_ble_eq_true rfl) dX12_behindOf_7
set_option maxRecDepth 100000 in
set_option maxHeartbeats 4000000 in
theorem k_X12_meanOf (l : Launch) (g : GG) (h0 : Nat) (a1 : Nat) (a2 : Nat) (a3 : Nat) (a4 : Nat) (a6 : Nat) (a14 : Nat) (a15 : Nat) (a19 : Nat) (a20 : Nat) (a23 : Nat) (a24 : Nat) (a25 : Nat) (a26 : Nat) (a27 : Nat) (a28 : Nat) (mthrown : Int32) (mtaped : Int32) (msize : Int32) (mat : Int32) (mfrom : Int32) (mtoken : Int32) (mvalue : Int32) (mfaultKind : Int32) (mfaultPlace : Int32) (mgoal : Int32) (mgoalDays : Int32) (mgoalHearer : Int32) (mleastOrder : Int32) (mwordsMany : Int32) (mworld : Nat → Int32) (p1 : Int32) (p2 : Int32) (i_mtaped : 0 ≤ mtaped.toInt ∧ mtaped.toInt ≤ 900) (i_msize : 0 ≤ msize.toInt ∧ msize.toInt ≤ 900) (i_mat : 0 ≤ mat.toInt ∧ mat.toInt ≤ 900) (i_mfrom : 0 ≤ mfrom.toInt ∧ mfrom.toInt ≤ 900) (i_mtoken : 0 ≤ mtoken.toInt ∧ mtoken.toInt ≤ 4) (i_mvalue : 0 ≤ mvalue.toInt ∧ mvalue.toInt ≤ 99999) (i_mgoalHearer : 0 ≤ mgoalHearer.toInt ∧ mgoalHearer.toInt ≤ 3) (i_mwordsMany : 0 ≤ mwordsMany.toInt ∧ mwordsMany.toInt ≤ 10) (i_mworld : wod mworld) (i_p1 : 0 ≤ p1.toInt ∧ p1.toInt ≤ 3) (i_p2 : 1 ≤ p2.toInt ∧ p2.toInt ≤ 255) : Ct l g yX12_meanOf cX12_meanOf 7 (some .int) { frames := 1, cells := 0, slots := 0, locals := 22 } [.ref h0, .int p1, .int p2] [(h0, .inr (12, [.int mthrown, .ref a1, .ref a2, .ref a3, .ref a4, .int mtaped, .ref a6, .int msize, .int mat, .int mfrom, .int mtoken, .int mvalue, .int mfaultKind, .int mfaultPlace, .ref a14, .ref a15, .int mgoal, .int mgoalDays, .int mgoalHearer, .ref a19, .ref a20, .int mleastOrder, .int mwordsMany, .ref a23, .ref a24, .ref a25, .ref a26, .ref a27, .ref a28])), (a1, .inl (g.2 0, 225, .inl mworld))] (S := (Nat → Int32) × (Nat → Nat → Int32) × (Nat → Nat → Int64)) (fun u => some (.int (u.1 0))) (fun u => True) (fun u => [(h0, .inr (12, [.int mthrown, .ref a1, .ref a2, .ref a3, .ref a4, .int mtaped, .ref a6, .int msize, .int mat, .int mfrom, .int mtoken, .int mvalue, .int mfaultKind, .int mfaultPlace, .ref a14, .ref a15, .int mgoal, .int mgoalDays, .int mgoalHearer, .ref a19, .ref a20, .int mleastOrder, .int mwordsMany, .ref a23, .ref a24, .ref a25, .ref a26, .ref a27, .ref a28])), (a1, .inl (g.2 0, 225, .inl mworld))]) := by
  refine Ct.of (by decide) (Nat.le_of_ble_eq_true rfl) ?_
  intro p e s m below meth c A ls FX hP hD hS hl
  obtain ⟨FC, hr, hlk, hKn, hA, hnm, hZ⟩ := id FX
  have FC : CallFix p m c cX12_meanOf 7 s _ BIG RX12 := FC
  obtain ⟨hx, hb, hml, hown, hB⟩ := id FC
  have hl : lv_has ls 7 [(0, .ref h0), (1, .int p1), (2, .int p2)] := hl
  refine lv_iconst (v := 0) hx hb dX12_meanOf_0 (by decide) ?_
  refine lv_istore_n (lv' := [(3, .int 0), (0, .ref h0), (1, .int p1), (2, .int p2)]) hx hb dX12_meanOf_1 rfl hl (by decide) rfl (fun ls hl => ?_)
  refine lv_iconst (v := 0) hx hb dX12_meanOf_2 (by decide) ?_
  refine lv_istore (lv' := [(4, .int 0), (3, .int 0), (0, .ref h0), (1, .int p1), (2, .int p2)]) hx hb dX12_meanOf_3 hl (by decide) rfl (fun ls hl => ?_)
  refine lv_iconst (v := 0) hx hb dX12_meanOf_5 (by decide) ?_
  refine lv_istore (lv' := [(5, .int 0), (4, .int 0), (3, .int 0), (0, .ref h0), (1, .int p1), (2, .int p2)]) hx hb dX12_meanOf_6 hl (by decide) rfl (fun ls hl => ?_)
  refine lv_iconst (v := 0) hx hb dX12_meanOf_8 (by decide) ?_
  refine lv_istore (lv' := [(6, .int 0), (5, .int 0), (4, .int 0), (3, .int 0), (0, .ref h0), (1, .int p1), (2, .int p2)]) hx hb dX12_meanOf_9 hl (by decide) rfl (fun ls hl => ?_)
  have lp262 : ∀ (n264 : Nat) (x258 : Int32) (x259 : Int32) (x260 : Int32) (x261 : Int32) (H : Heap) (locs : List Loc) (ls : Array Slot), 0 ≤ x258.toInt ∧ x258.toInt ≤ 8 → (8 - x258.toInt).toNat < n264 → va_P g.1 vwCl [(h0, .inr (12, [.int mthrown, .ref a1, .ref a2, .ref a3, .ref a4, .int mtaped, .ref a6, .int msize, .int mat, .int mfrom, .int mtoken, .int mvalue, .int mfaultKind, .int mfaultPlace, .ref a14, .ref a15, .int mgoal, .int mgoalDays, .int mgoalHearer, .ref a19, .ref a20, .int mleastOrder, .int mwordsMany, .ref a23, .ref a24, .ref a25, .ref a26, .ref a27, .ref a28])), (a1, .inl (g.2 0, 225, .inl mworld))] H → va_D A [(h0, .inr (12, [.int mthrown, .ref a1, .ref a2, .ref a3, .ref a4, .int mtaped, .ref a6, .int msize, .int mat, .int mfrom, .int mtoken, .int mvalue, .int mfaultKind, .int mfaultPlace, .ref a14, .ref a15, .int mgoal, .int mgoalDays, .int mgoalHearer, .ref a19, .ref a20, .int mleastOrder, .int mwordsMany, .ref a23, .ref a24, .ref a25, .ref a26, .ref a27, .ref a28])), (a1, .inl (g.2 0, 225, .inl mworld))] → va_S A s.heap H locs → lv_has ls 7 [(6, .int x258), (5, .int x259), (4, .int x260), (3, .int x261), (0, .ref h0), (1, .int p1), (2, .int p2)] → W p l e { frames := 1, cells := 0, slots := 0, locals := 22 } s m ([.ref h0, .int p1, .int p2].toArray) below meth c H locs 0 0 (MQ below (QX (S := (Nat → Int32) × (Nat → Nat → Int32) × (Nat → Nat → Int64)) (fun u => some (.int (u.1 0))) (fun u => True) g (fun u => [(h0, .inr (12, [.int mthrown, .ref a1, .ref a2, .ref a3, .ref a4, .int mtaped, .ref a6, .int msize, .int mat, .int mfrom, .int mtoken, .int mvalue, .int mfaultKind, .int mfaultPlace, .ref a14, .ref a15, .int mgoal, .int mgoalDays, .int mgoalHearer, .ref a19, .ref a20, .int mleastOrder, .int mwordsMany, .ref a23, .ref a24, .ref a25, .ref a26, .ref a27, .ref a28])), (a1, .inl (g.2 0, 225, .inl mworld))]) A) ([.ref h0, .int p1, .int p2].toArray) s 0 0 A) (F0 m 11 ls []) := by
    intro n264
    induction n264 with
    | zero =>
      intro x258 x259 x260 x261 H locs ls h_x258 hn265
      exact absurd hn265 (Nat.not_lt_zero _)
    | succ n264 ih263 =>
      intro x258 x259 x260 x261 H locs ls h_x258 hn265 hP hD hS hl
      refine lv_iload hx hb dX12_meanOf_11 (lv_at hl 0 rfl) ?_
      refine lv_aload_n hx hb dX12_meanOf_13 rfl (lv_at hl 4 rfl) ?_
      refine g_get (C := RX12) (T := TX12) (N := 29) (ci := 12) (v := .ref a1) FC hKn hP i_X12 0 rfl rfl 1 (by decide) b_801 rfl dX12_meanOf_14 ?_
      refine lv_iconst (v := 0) hx hb dX12_meanOf_17 (by decide) ?_
      refine va_iald hx hb hKn.1 hP 1 0 rfl rfl (by unfold vp_in; decide) dX12_meanOf_18 ?_
      have kc0 : (0 : Int32).toInt = 0 := by decide
      refine lv_topi (fun z266 e_z266 => ?_)
      have t_z266 : 0 ≤ z266.toInt ∧ z266.toInt ≤ 8 := by rw [e_z266]; exact wk_0 i_mworld.1
      have q_z266 : z266.toInt = (mworld 0).toInt := by rw [e_z266]; rfl
      refine lv_icmp_ge (tgt := 88) hx hb dX12_meanOf_19 (by decide) (fun c267 => ?_) (fun c267 => ?_)
      · have c267 := k_le (a := z266.toInt) (b := x258.toInt) rfl rfl c267
        refine lv_iload hx hb dX12_meanOf_88 (lv_at hl 2 rfl) ?_
        refine lv_if_le (tgt := 103) hx hb dX12_meanOf_90 (by decide) (fun c268 => ?_) (fun c268 => ?_)
        · have c268 := k_le (a := x260.toInt) (b := 0) rfl (by decide) c268
          refine lv_bipush (v := 100) hx hb dX12_meanOf_103 (by decide) ?_
          refine lv_iload hx hb dX12_meanOf_105 (lv_at hl 1 rfl) ?_
          refine lv_imul hx hb dX12_meanOf_107 ?_
          refine lv_topi (fun z269 e_z269 => ?_)
          refine lv_iload_n hx hb dX12_meanOf_108 rfl (lv_at hl 6 rfl) ?_
          refine call_S (As := [.int p2]) (rest := [.int z269]) (wr := [(h0, .inr (12, [.int mthrown, .ref a1, .ref a2, .ref a3, .ref a4, .int mtaped, .ref a6, .int msize, .int mat, .int mfrom, .int mtoken, .int mvalue, .int mfaultKind, .int mfaultPlace, .ref a14, .ref a15, .int mgoal, .int mgoalDays, .int mgoalHearer, .ref a19, .ref a20, .int mleastOrder, .int mwordsMany, .ref a23, .ref a24, .ref a25, .ref a26, .ref a27, .ref a28])), (a1, .inl (g.2 0, 225, .inl mworld))]) FC hKn hZ (k_X12_bits l g p2) m_yX12_bits b_851 hP hD hS hA [] [0, 1] rfl (by decide) rfl (by decide) (by decide) rfl hl.1 rfl (Nat.le_of_ble_eq_true rfl) dX12_meanOf_109 ⟨(Nat.le_of_ble_eq_true rfl), (Nat.le_of_ble_eq_true rfl)⟩ ⟨(Nat.le_of_ble_eq_true rfl), (Nat.le_of_ble_eq_true rfl)⟩ (fun u270 H locs q271 hP hD hS => ?_)
          obtain ⟨q271_0, q271_1⟩ := q271
          have hP : va_P g.1 vwCl [(h0, .inr (12, [.int mthrown, .ref a1, .ref a2, .ref a3, .ref a4, .int mtaped, .ref a6, .int msize, .int mat, .int mfrom, .int mtoken, .int mvalue, .int mfaultKind, .int mfaultPlace, .ref a14, .ref a15, .int mgoal, .int mgoalDays, .int mgoalHearer, .ref a19, .ref a20, .int mleastOrder, .int mwordsMany, .ref a23, .ref a24, .ref a25, .ref a26, .ref a27, .ref a28])), (a1, .inl (g.2 0, 225, .inl mworld))] H := hP
          have hD : va_D A [(h0, .inr (12, [.int mthrown, .ref a1, .ref a2, .ref a3, .ref a4, .int mtaped, .ref a6, .int msize, .int mat, .int mfrom, .int mtoken, .int mvalue, .int mfaultKind, .int mfaultPlace, .ref a14, .ref a15, .int mgoal, .int mgoalDays, .int mgoalHearer, .ref a19, .ref a20, .int mleastOrder, .int mwordsMany, .ref a23, .ref a24, .ref a25, .ref a26, .ref a27, .ref a28])), (a1, .inl (g.2 0, 225, .inl mworld))] := hD
          refine W.eq (g2 := F0 m 112 ls [.int (u270.1 0), .int z269]) rfl ?_
          refine lv_idiv hx hb dX12_meanOf_112 (ne0 (by omega)) ?_
          refine lv_topi (fun z272 e_z272 => ?_)
          exact rt_i FX ((fun k => match k with | 0 => z272 | _ => 0), (fun _ => fun _ => 0), (fun _ => fun _ => 0)) rfl trivial (hP.sub [0, 1] rfl) (hD.sub [0, 1] (by decide) rfl) hS (Nat.le_of_ble_eq_true rfl) (Nat.le_of_ble_eq_true rfl) dX12_meanOf_113
        · have c268 := k_nle (a := x260.toInt) (b := 0) rfl (by decide) c268
          refine lv_bipush (v := 100) hx hb dX12_meanOf_93 (by decide) ?_
          refine lv_iload_n hx hb dX12_meanOf_95 rfl (lv_at hl 3 rfl) ?_
          refine lv_imul hx hb dX12_meanOf_96 ?_
          refine lv_topi (fun z273 e_z273 => ?_)
          refine lv_iload hx hb dX12_meanOf_97 (lv_at hl 2 rfl) ?_
          refine lv_idiv hx hb dX12_meanOf_99 (ne0 (by omega)) ?_
          refine lv_topi (fun z274 e_z274 => ?_)
          refine lv_goto (tgt := 113) hx hb dX12_meanOf_100 (by decide) ?_
          exact rt_i FX ((fun k => match k with | 0 => z274 | _ => 0), (fun _ => fun _ => 0), (fun _ => fun _ => 0)) rfl trivial (hP.sub [0, 1] rfl) (hD.sub [0, 1] (by decide) rfl) hS (Nat.le_of_ble_eq_true rfl) (Nat.le_of_ble_eq_true rfl) dX12_meanOf_113
      · have c267 := k_nle (a := z266.toInt) (b := x258.toInt) rfl rfl c267
        refine lv_iload_n hx hb dX12_meanOf_22 rfl (lv_at hl 6 rfl) ?_
        refine lv_iload hx hb dX12_meanOf_23 (lv_at hl 0 rfl) ?_
        refine call_S (As := [.int p2, .int x258]) (rest := []) (wr := [(h0, .inr (12, [.int mthrown, .ref a1, .ref a2, .ref a3, .ref a4, .int mtaped, .ref a6, .int msize, .int mat, .int mfrom, .int mtoken, .int mvalue, .int mfaultKind, .int mfaultPlace, .ref a14, .ref a15, .int mgoal, .int mgoalDays, .int mgoalHearer, .ref a19, .ref a20, .int mleastOrder, .int mwordsMany, .ref a23, .ref a24, .ref a25, .ref a26, .ref a27, .ref a28])), (a1, .inl (g.2 0, 225, .inl mworld))]) FC hKn hZ (k_X12_bit l g p2 x258) m_yX12_bit b_849 hP hD hS hA [] [0, 1] rfl (by decide) rfl (by decide) (by decide) rfl hl.1 rfl (Nat.le_of_ble_eq_true rfl) dX12_meanOf_25 ⟨(Nat.le_of_ble_eq_true rfl), (Nat.le_of_ble_eq_true rfl)⟩ ⟨(Nat.le_of_ble_eq_true rfl), (Nat.le_of_ble_eq_true rfl)⟩ (fun u275 H locs q276 hP hD hS => ?_)
        obtain ⟨q276_0, q276_1⟩ := q276
        have hP : va_P g.1 vwCl [(h0, .inr (12, [.int mthrown, .ref a1, .ref a2, .ref a3, .ref a4, .int mtaped, .ref a6, .int msize, .int mat, .int mfrom, .int mtoken, .int mvalue, .int mfaultKind, .int mfaultPlace, .ref a14, .ref a15, .int mgoal, .int mgoalDays, .int mgoalHearer, .ref a19, .ref a20, .int mleastOrder, .int mwordsMany, .ref a23, .ref a24, .ref a25, .ref a26, .ref a27, .ref a28])), (a1, .inl (g.2 0, 225, .inl mworld))] H := hP
        have hD : va_D A [(h0, .inr (12, [.int mthrown, .ref a1, .ref a2, .ref a3, .ref a4, .int mtaped, .ref a6, .int msize, .int mat, .int mfrom, .int mtoken, .int mvalue, .int mfaultKind, .int mfaultPlace, .ref a14, .ref a15, .int mgoal, .int mgoalDays, .int mgoalHearer, .ref a19, .ref a20, .int mleastOrder, .int mwordsMany, .ref a23, .ref a24, .ref a25, .ref a26, .ref a27, .ref a28])), (a1, .inl (g.2 0, 225, .inl mworld))] := hD
        refine W.eq (g2 := F0 m 28 ls [.int (u275.1 0)]) rfl ?_
        rw [q276_1] at q276_0
        refine tp_i (v := bitF p2 x258) q276_1 ?_
        refine lv_if_ne (tgt := 34) hx hb dX12_meanOf_28 (by decide) (fun c277 => ?_) (fun c277 => ?_)
        · have c277 := k_ne (a := (bitF p2 x258).toInt) (b := 0) rfl (by decide) c277
          refine lv_iload_n hx hb dX12_meanOf_34 rfl (lv_at hl 3 rfl) ?_
          refine lv_aload_n hx hb dX12_meanOf_35 rfl (lv_at hl 4 rfl) ?_
          refine g_get (C := RX12) (T := TX12) (N := 29) (ci := 12) (v := .ref a1) FC hKn hP i_X12 0 rfl rfl 1 (by decide) b_801 rfl dX12_meanOf_36 ?_
          refine lv_bipush (v := 11) hx hb dX12_meanOf_39 (by decide) ?_
          refine lv_iload hx hb dX12_meanOf_41 (lv_at hl 0 rfl) ?_
          refine lv_iadd hx hb dX12_meanOf_43 ?_
          have kc11 : (11 : Int32).toInt = 11 := by decide
          refine lv_topi (fun z278 e_z278 => ?_)
          have t_z278 : z278.toInt = ((11 : Int32)).toInt + x258.toInt := by rw [e_z278]; exact fb_addI (by omega) (by omega)
          refine va_iald hx hb hKn.1 hP 1 0 rfl rfl (vp_in_iff.mpr ⟨by omega, by omega⟩) dX12_meanOf_44 ?_
          refine lv_topi (fun z279 e_z279 => ?_)
          have t_z279 : 0 ≤ z279.toInt ∧ z279.toInt ≤ 99 := by rw [e_z279]; exact wk_g i_mworld.1 (by omega) (by omega)
          have q_z279 : z279.toInt = (mworld z278.toNatClampNeg).toInt := by rw [e_z279]
          refine lv_aload_n hx hb dX12_meanOf_45 rfl (lv_at hl 4 rfl) ?_
          refine lv_iload_n hx hb dX12_meanOf_46 rfl (lv_at hl 5 rfl) ?_
          refine lv_iload hx hb dX12_meanOf_47 (lv_at hl 0 rfl) ?_
          refine call_V (As := [.int p1, .int x258]) (rest := [.int z279, .int x261]) (wr := []) FC hKn hZ (k_X12_thinksOf l g h0 a1 a2 a3 a4 a6 a14 a15 a19 a20 a23 a24 a25 a26 a27 a28 mthrown mtaped msize mat mfrom mtoken mvalue mfaultKind mfaultPlace mgoal mgoalDays mgoalHearer mleastOrder mwordsMany mworld p1 x258 (by omega) (by omega) (by omega) (by omega) (by omega) (by omega) (by omega) (by omega) i_mworld (by omega) (by omega)) m_yX12_thinksOf b_852 (ci := 12) rfl rfl rfl hP hD hS hA [0, 1] [] rfl (by decide) rfl (by decide) (by decide) rfl hl.1 rfl (Nat.le_of_ble_eq_true rfl) dX12_meanOf_49 ⟨(Nat.le_of_ble_eq_true rfl), (Nat.le_of_ble_eq_true rfl)⟩ ⟨(Nat.le_of_ble_eq_true rfl), (Nat.le_of_ble_eq_true rfl)⟩ (fun u280 H locs q281 hP hD hS => ?_)
          have q281_0 : 0 ≤ (u280.1 0).toInt ∧ (u280.1 0).toInt ≤ 99 := q281
          have hP : va_P g.1 vwCl [(h0, .inr (12, [.int mthrown, .ref a1, .ref a2, .ref a3, .ref a4, .int mtaped, .ref a6, .int msize, .int mat, .int mfrom, .int mtoken, .int mvalue, .int mfaultKind, .int mfaultPlace, .ref a14, .ref a15, .int mgoal, .int mgoalDays, .int mgoalHearer, .ref a19, .ref a20, .int mleastOrder, .int mwordsMany, .ref a23, .ref a24, .ref a25, .ref a26, .ref a27, .ref a28])), (a1, .inl (g.2 0, 225, .inl mworld))] H := hP
          have hD : va_D A [(h0, .inr (12, [.int mthrown, .ref a1, .ref a2, .ref a3, .ref a4, .int mtaped, .ref a6, .int msize, .int mat, .int mfrom, .int mtoken, .int mvalue, .int mfaultKind, .int mfaultPlace, .ref a14, .ref a15, .int mgoal, .int mgoalDays, .int mgoalHearer, .ref a19, .ref a20, .int mleastOrder, .int mwordsMany, .ref a23, .ref a24, .ref a25, .ref a26, .ref a27, .ref a28])), (a1, .inl (g.2 0, 225, .inl mworld))] := hD
          refine W.eq (g2 := F0 m 52 ls [.int (u280.1 0), .int z279, .int x261]) rfl ?_
          refine lv_imul hx hb dX12_meanOf_52 ?_
          refine lv_topi (fun z282 e_z282 => ?_)
          have t_z282 : 0 ≤ z282.toInt ∧ z282.toInt ≤ 9801 := by rw [e_z282]; exact mul_nn (a := 99) (b := 99) (by omega) (by omega) (by omega) (by omega) (by decide) (by decide)
          refine lv_iadd hx hb dX12_meanOf_53 ?_
          refine lv_topi (fun z283 e_z283 => ?_)
          refine lv_istore_n (lv' := [(3, .int z283), (6, .int x258), (5, .int x259), (4, .int x260), (0, .ref h0), (1, .int p1), (2, .int p2)]) hx hb dX12_meanOf_54 rfl hl (by decide) rfl (fun ls hl => ?_)
          refine lv_iload hx hb dX12_meanOf_55 (lv_at hl 3 rfl) ?_
          refine lv_aload_n hx hb dX12_meanOf_57 rfl (lv_at hl 4 rfl) ?_
          refine lv_iload_n hx hb dX12_meanOf_58 rfl (lv_at hl 5 rfl) ?_
          refine lv_iload hx hb dX12_meanOf_59 (lv_at hl 1 rfl) ?_
          refine call_V (As := [.int p1, .int x258]) (rest := [.int x260]) (wr := []) FC hKn hZ (k_X12_thinksOf l g h0 a1 a2 a3 a4 a6 a14 a15 a19 a20 a23 a24 a25 a26 a27 a28 mthrown mtaped msize mat mfrom mtoken mvalue mfaultKind mfaultPlace mgoal mgoalDays mgoalHearer mleastOrder mwordsMany mworld p1 x258 (by omega) (by omega) (by omega) (by omega) (by omega) (by omega) (by omega) (by omega) i_mworld (by omega) (by omega)) m_yX12_thinksOf b_852 (ci := 12) rfl rfl rfl hP hD hS hA [0, 1] [] rfl (by decide) rfl (by decide) (by decide) rfl hl.1 rfl (Nat.le_of_ble_eq_true rfl) dX12_meanOf_61 ⟨(Nat.le_of_ble_eq_true rfl), (Nat.le_of_ble_eq_true rfl)⟩ ⟨(Nat.le_of_ble_eq_true rfl), (Nat.le_of_ble_eq_true rfl)⟩ (fun u284 H locs q285 hP hD hS => ?_)
          have q285_0 : 0 ≤ (u284.1 0).toInt ∧ (u284.1 0).toInt ≤ 99 := q285
          have hP : va_P g.1 vwCl [(h0, .inr (12, [.int mthrown, .ref a1, .ref a2, .ref a3, .ref a4, .int mtaped, .ref a6, .int msize, .int mat, .int mfrom, .int mtoken, .int mvalue, .int mfaultKind, .int mfaultPlace, .ref a14, .ref a15, .int mgoal, .int mgoalDays, .int mgoalHearer, .ref a19, .ref a20, .int mleastOrder, .int mwordsMany, .ref a23, .ref a24, .ref a25, .ref a26, .ref a27, .ref a28])), (a1, .inl (g.2 0, 225, .inl mworld))] H := hP
          have hD : va_D A [(h0, .inr (12, [.int mthrown, .ref a1, .ref a2, .ref a3, .ref a4, .int mtaped, .ref a6, .int msize, .int mat, .int mfrom, .int mtoken, .int mvalue, .int mfaultKind, .int mfaultPlace, .ref a14, .ref a15, .int mgoal, .int mgoalDays, .int mgoalHearer, .ref a19, .ref a20, .int mleastOrder, .int mwordsMany, .ref a23, .ref a24, .ref a25, .ref a26, .ref a27, .ref a28])), (a1, .inl (g.2 0, 225, .inl mworld))] := hD
          refine W.eq (g2 := F0 m 64 ls [.int (u284.1 0), .int x260]) rfl ?_
          refine lv_iadd hx hb dX12_meanOf_64 ?_
          refine lv_topi (fun z286 e_z286 => ?_)
          refine lv_istore (lv' := [(4, .int z286), (3, .int z283), (6, .int x258), (5, .int x259), (0, .ref h0), (1, .int p1), (2, .int p2)]) hx hb dX12_meanOf_65 hl (by decide) rfl (fun ls hl => ?_)
          refine lv_iload hx hb dX12_meanOf_67 (lv_at hl 3 rfl) ?_
          refine lv_aload_n hx hb dX12_meanOf_69 rfl (lv_at hl 4 rfl) ?_
          refine g_get (C := RX12) (T := TX12) (N := 29) (ci := 12) (v := .ref a1) FC hKn hP i_X12 0 rfl rfl 1 (by decide) b_801 rfl dX12_meanOf_70 ?_
          refine lv_bipush (v := 11) hx hb dX12_meanOf_73 (by decide) ?_
          refine lv_iload hx hb dX12_meanOf_75 (lv_at hl 2 rfl) ?_
          refine lv_iadd hx hb dX12_meanOf_77 ?_
          refine lv_topi (fun z287 e_z287 => ?_)
          have t_z287 : z287.toInt = ((11 : Int32)).toInt + x258.toInt := by rw [e_z287]; exact fb_addI (by omega) (by omega)
          refine va_iald hx hb hKn.1 hP 1 0 rfl rfl (vp_in_iff.mpr ⟨by omega, by omega⟩) dX12_meanOf_78 ?_
          refine lv_topi (fun z288 e_z288 => ?_)
          have t_z288 : 0 ≤ z288.toInt ∧ z288.toInt ≤ 99 := by rw [e_z288]; exact wk_g i_mworld.1 (by omega) (by omega)
          have q_z288 : z288.toInt = (mworld z287.toNatClampNeg).toInt := by rw [e_z288]
          refine lv_iadd hx hb dX12_meanOf_79 ?_
          refine lv_topi (fun z289 e_z289 => ?_)
          refine lv_istore (lv' := [(5, .int z289), (4, .int z286), (3, .int z283), (6, .int x258), (0, .ref h0), (1, .int p1), (2, .int p2)]) hx hb dX12_meanOf_80 hl (by decide) rfl (fun ls hl => ?_)
          obtain ⟨z290, e_z290⟩ : ∃ y : Int32, y = x258 + 1 := ⟨_, rfl⟩
          have t_z290 : z290.toInt = x258.toInt + 1 := by rw [e_z290]; exact addk (by decide) (by omega) (by omega)
          refine lv_iinc (v := z290) (lv' := [(6, .int z290), (5, .int z289), (4, .int z286), (3, .int z283), (0, .ref h0), (1, .int p1), (2, .int p2)]) hx hb dX12_meanOf_82 hl (k := 3) rfl (by rw [e_z290]; rfl) (by decide) rfl (fun ls hl => ?_)
          refine lv_goto (tgt := 11) hx hb dX12_meanOf_85 (by decide) ?_
          exact ih263 z290 z289 z286 z283 _ _ ls (by omega) (by omega) hP hD hS (lv_sub hl [0, 1, 2, 3, 4, 5, 6] rfl)
        · have c277 := k_eq (a := (bitF p2 x258).toInt) (b := 0) rfl (by decide) c277
          refine lv_goto (tgt := 82) hx hb dX12_meanOf_31 (by decide) ?_
          obtain ⟨z291, e_z291⟩ : ∃ y : Int32, y = x258 + 1 := ⟨_, rfl⟩
          have t_z291 : z291.toInt = x258.toInt + 1 := by rw [e_z291]; exact addk (by decide) (by omega) (by omega)
          refine lv_iinc (v := z291) (lv' := [(6, .int z291), (5, .int x259), (4, .int x260), (3, .int x261), (0, .ref h0), (1, .int p1), (2, .int p2)]) hx hb dX12_meanOf_82 hl (k := 0) rfl (by rw [e_z291]; rfl) (by decide) rfl (fun ls hl => ?_)
          refine lv_goto (tgt := 11) hx hb dX12_meanOf_85 (by decide) ?_
          exact ih263 z291 x259 x260 x261 _ _ ls (by omega) (by omega) hP hD hS (lv_sub hl [0, 1, 2, 3, 4, 5, 6] rfl)
  have kc0 : (0 : Int32).toInt = 0 := by decide
  exact lp262 _ (0 : Int32) (0 : Int32) (0 : Int32) (0 : Int32) _ _ ls (by decide) (Nat.lt_succ_self _) hP hD hS (lv_sub hl [0, 1, 2, 3, 4, 5, 6] rfl)
set_option maxRecDepth 100000 in
set_option maxHeartbeats 4000000 in
theorem k_X12_rise (l : Launch) (g : GG) (h0 : Nat) (a1 : Nat) (a2 : Nat) (a3 : Nat) (a4 : Nat) (a6 : Nat) (a14 : Nat) (a15 : Nat) (a19 : Nat) (a20 : Nat) (a23 : Nat) (a24 : Nat) (a25 : Nat) (a26 : Nat) (a27 : Nat) (a28 : Nat) (mthrown : Int32) (mtaped : Int32) (msize : Int32) (mat : Int32) (mfrom : Int32) (mtoken : Int32) (mvalue : Int32) (mfaultKind : Int32) (mfaultPlace : Int32) (mgoal : Int32) (mgoalDays : Int32) (mgoalHearer : Int32) (mleastOrder : Int32) (mwordsMany : Int32) (mworld : Nat → Int32) (p1 : Int32) (p2 : Int32) (p3 : Int32) (i_mtaped : 0 ≤ mtaped.toInt ∧ mtaped.toInt ≤ 900) (i_msize : 0 ≤ msize.toInt ∧ msize.toInt ≤ 900) (i_mat : 0 ≤ mat.toInt ∧ mat.toInt ≤ 900) (i_mfrom : 0 ≤ mfrom.toInt ∧ mfrom.toInt ≤ 900) (i_mtoken : 0 ≤ mtoken.toInt ∧ mtoken.toInt ≤ 4) (i_mvalue : 0 ≤ mvalue.toInt ∧ mvalue.toInt ≤ 99999) (i_mgoalHearer : 0 ≤ mgoalHearer.toInt ∧ mgoalHearer.toInt ≤ 3) (i_mwordsMany : 0 ≤ mwordsMany.toInt ∧ mwordsMany.toInt ≤ 10) (i_mworld : wod mworld) (i_p1 : 0 ≤ p1.toInt ∧ p1.toInt ≤ 3) (i_p2 : 1 ≤ p2.toInt ∧ p2.toInt ≤ 255) (i_p3 : 1 ≤ p3.toInt ∧ p3.toInt ≤ 255) : Ct l g yX12_rise cX12_rise 5 (some .int) { frames := 2, cells := 0, slots := 0, locals := 48 } [.ref h0, .int p1, .int p2, .int p3] [(h0, .inr (12, [.int mthrown, .ref a1, .ref a2, .ref a3, .ref a4, .int mtaped, .ref a6, .int msize, .int mat, .int mfrom, .int mtoken, .int mvalue, .int mfaultKind, .int mfaultPlace, .ref a14, .ref a15, .int mgoal, .int mgoalDays, .int mgoalHearer, .ref a19, .ref a20, .int mleastOrder, .int mwordsMany, .ref a23, .ref a24, .ref a25, .ref a26, .ref a27, .ref a28])), (a1, .inl (g.2 0, 225, .inl mworld))] (S := (Nat → Int32) × (Nat → Nat → Int32) × (Nat → Nat → Int64)) (fun u => some (.int (u.1 0))) (fun u => True) (fun u => [(h0, .inr (12, [.int mthrown, .ref a1, .ref a2, .ref a3, .ref a4, .int mtaped, .ref a6, .int msize, .int mat, .int mfrom, .int mtoken, .int mvalue, .int mfaultKind, .int mfaultPlace, .ref a14, .ref a15, .int mgoal, .int mgoalDays, .int mgoalHearer, .ref a19, .ref a20, .int mleastOrder, .int mwordsMany, .ref a23, .ref a24, .ref a25, .ref a26, .ref a27, .ref a28])), (a1, .inl (g.2 0, 225, .inl mworld))]) := by
  refine Ct.of (by decide) (Nat.le_of_ble_eq_true rfl) ?_
  intro p e s m below meth c A ls FX hP hD hS hl
  obtain ⟨FC, hr, hlk, hKn, hA, hnm, hZ⟩ := id FX
  have FC : CallFix p m c cX12_rise 5 s _ BIG RX12 := FC
  obtain ⟨hx, hb, hml, hown, hB⟩ := id FC
  have hl : lv_has ls 5 [(0, .ref h0), (1, .int p1), (2, .int p2), (3, .int p3)] := hl
  refine lv_aload_n hx hb dX12_rise_0 rfl (lv_at hl 0 rfl) ?_
  refine lv_iload_n hx hb dX12_rise_1 rfl (lv_at hl 1 rfl) ?_
  refine lv_iload_n hx hb dX12_rise_2 rfl (lv_at hl 3 rfl) ?_
  refine call_V (As := [.int p1, .int p3]) (rest := []) (wr := []) FC hKn hZ (k_X12_meanOf l g h0 a1 a2 a3 a4 a6 a14 a15 a19 a20 a23 a24 a25 a26 a27 a28 mthrown mtaped msize mat mfrom mtoken mvalue mfaultKind mfaultPlace mgoal mgoalDays mgoalHearer mleastOrder mwordsMany mworld p1 p3 (by omega) (by omega) (by omega) (by omega) (by omega) (by omega) (by omega) (by omega) i_mworld (by omega) (by omega)) m_yX12_meanOf b_853 (ci := 12) rfl rfl rfl hP hD hS hA [0, 1] [] rfl (by decide) rfl (by decide) (by decide) rfl hl.1 rfl (Nat.le_of_ble_eq_true rfl) dX12_rise_3 ⟨(Nat.le_of_ble_eq_true rfl), (Nat.le_of_ble_eq_true rfl)⟩ ⟨(Nat.le_of_ble_eq_true rfl), (Nat.le_of_ble_eq_true rfl)⟩ (fun u1 H locs q2 hP hD hS => ?_)
  have hP : va_P g.1 vwCl [(h0, .inr (12, [.int mthrown, .ref a1, .ref a2, .ref a3, .ref a4, .int mtaped, .ref a6, .int msize, .int mat, .int mfrom, .int mtoken, .int mvalue, .int mfaultKind, .int mfaultPlace, .ref a14, .ref a15, .int mgoal, .int mgoalDays, .int mgoalHearer, .ref a19, .ref a20, .int mleastOrder, .int mwordsMany, .ref a23, .ref a24, .ref a25, .ref a26, .ref a27, .ref a28])), (a1, .inl (g.2 0, 225, .inl mworld))] H := hP
  have hD : va_D A [(h0, .inr (12, [.int mthrown, .ref a1, .ref a2, .ref a3, .ref a4, .int mtaped, .ref a6, .int msize, .int mat, .int mfrom, .int mtoken, .int mvalue, .int mfaultKind, .int mfaultPlace, .ref a14, .ref a15, .int mgoal, .int mgoalDays, .int mgoalHearer, .ref a19, .ref a20, .int mleastOrder, .int mwordsMany, .ref a23, .ref a24, .ref a25, .ref a26, .ref a27, .ref a28])), (a1, .inl (g.2 0, 225, .inl mworld))] := hD
  refine W.eq (g2 := F0 m 6 ls [.int (u1.1 0)]) rfl ?_
  refine lv_aload_n hx hb dX12_rise_6 rfl (lv_at hl 0 rfl) ?_
  refine lv_iload_n hx hb dX12_rise_7 rfl (lv_at hl 1 rfl) ?_
  refine lv_iload_n hx hb dX12_rise_8 rfl (lv_at hl 2 rfl) ?_
  refine call_V (As := [.int p1, .int p2]) (rest := [.int (u1.1 0)]) (wr := []) FC hKn hZ (k_X12_meanOf l g h0 a1 a2 a3 a4 a6 a14 a15 a19 a20 a23 a24 a25 a26 a27 a28 mthrown mtaped msize mat mfrom mtoken mvalue mfaultKind mfaultPlace mgoal mgoalDays mgoalHearer mleastOrder mwordsMany mworld p1 p2 (by omega) (by omega) (by omega) (by omega) (by omega) (by omega) (by omega) (by omega) i_mworld (by omega) (by omega)) m_yX12_meanOf b_853 (ci := 12) rfl rfl rfl hP hD hS hA [0, 1] [] rfl (by decide) rfl (by decide) (by decide) rfl hl.1 rfl (Nat.le_of_ble_eq_true rfl) dX12_rise_9 ⟨(Nat.le_of_ble_eq_true rfl), (Nat.le_of_ble_eq_true rfl)⟩ ⟨(Nat.le_of_ble_eq_true rfl), (Nat.le_of_ble_eq_true rfl)⟩ (fun u3 H locs q4 hP hD hS => ?_)
  have hP : va_P g.1 vwCl [(h0, .inr (12, [.int mthrown, .ref a1, .ref a2, .ref a3, .ref a4, .int mtaped, .ref a6, .int msize, .int mat, .int mfrom, .int mtoken, .int mvalue, .int mfaultKind, .int mfaultPlace, .ref a14, .ref a15, .int mgoal, .int mgoalDays, .int mgoalHearer, .ref a19, .ref a20, .int mleastOrder, .int mwordsMany, .ref a23, .ref a24, .ref a25, .ref a26, .ref a27, .ref a28])), (a1, .inl (g.2 0, 225, .inl mworld))] H := hP
  have hD : va_D A [(h0, .inr (12, [.int mthrown, .ref a1, .ref a2, .ref a3, .ref a4, .int mtaped, .ref a6, .int msize, .int mat, .int mfrom, .int mtoken, .int mvalue, .int mfaultKind, .int mfaultPlace, .ref a14, .ref a15, .int mgoal, .int mgoalDays, .int mgoalHearer, .ref a19, .ref a20, .int mleastOrder, .int mwordsMany, .ref a23, .ref a24, .ref a25, .ref a26, .ref a27, .ref a28])), (a1, .inl (g.2 0, 225, .inl mworld))] := hD
  refine W.eq (g2 := F0 m 12 ls [.int (u3.1 0), .int (u1.1 0)]) rfl ?_
  refine lv_isub hx hb dX12_rise_12 ?_
  refine lv_topi (fun z5 e_z5 => ?_)
  refine lv_istore (lv' := [(4, .int z5), (0, .ref h0), (1, .int p1), (2, .int p2), (3, .int p3)]) hx hb dX12_rise_13 hl (by decide) rfl (fun ls hl => ?_)
  refine lv_iload hx hb dX12_rise_15 (lv_at hl 0 rfl) ?_
  refine lv_if_le (tgt := 31) hx hb dX12_rise_17 (by decide) (fun c6 => ?_) (fun c6 => ?_)
  · have c6 := k_le (a := z5.toInt) (b := 0) rfl (by decide) c6
    refine lv_iconst (v := 0) hx hb dX12_rise_31 (by decide) ?_
    exact rt_i FX ((fun k => match k with | 0 => (0 : Int32) | _ => 0), (fun _ => fun _ => 0), (fun _ => fun _ => 0)) rfl trivial (hP.sub [0, 1] rfl) (hD.sub [0, 1] (by decide) rfl) hS (Nat.le_of_ble_eq_true rfl) (Nat.le_of_ble_eq_true rfl) dX12_rise_32
  · have c6 := k_nle (a := z5.toInt) (b := 0) rfl (by decide) c6
    refine lv_iload hx hb dX12_rise_20 (lv_at hl 0 rfl) ?_
    refine lv_iload hx hb dX12_rise_22 (lv_at hl 0 rfl) ?_
    refine lv_imul hx hb dX12_rise_24 ?_
    refine lv_topi (fun z7 e_z7 => ?_)
    refine lv_bipush (v := 100) hx hb dX12_rise_25 (by decide) ?_
    refine lv_idiv hx hb dX12_rise_27 (by decide) ?_
    refine lv_topi (fun z8 e_z8 => ?_)
    refine lv_goto (tgt := 32) hx hb dX12_rise_28 (by decide) ?_
    exact rt_i FX ((fun k => match k with | 0 => z8 | _ => 0), (fun _ => fun _ => 0), (fun _ => fun _ => 0)) rfl trivial (hP.sub [0, 1] rfl) (hD.sub [0, 1] (by decide) rfl) hS (Nat.le_of_ble_eq_true rfl) (Nat.le_of_ble_eq_true rfl) dX12_rise_32
set_option maxRecDepth 100000 in
set_option maxHeartbeats 4000000 in
theorem k_X12_hurtOf (l : Launch) (g : GG) (h0 : Nat) (a1 : Nat) (a2 : Nat) (a3 : Nat) (a4 : Nat) (a6 : Nat) (a14 : Nat) (a15 : Nat) (a19 : Nat) (a20 : Nat) (a23 : Nat) (a24 : Nat) (a25 : Nat) (a26 : Nat) (a27 : Nat) (a28 : Nat) (mthrown : Int32) (mtaped : Int32) (msize : Int32) (mat : Int32) (mfrom : Int32) (mtoken : Int32) (mvalue : Int32) (mfaultKind : Int32) (mfaultPlace : Int32) (mgoal : Int32) (mgoalDays : Int32) (mgoalHearer : Int32) (mleastOrder : Int32) (mwordsMany : Int32) (mworld : Nat → Int32) (p1 : Int32) (p2 : Int32) (p3 : Int32) (i_mtaped : 0 ≤ mtaped.toInt ∧ mtaped.toInt ≤ 900) (i_msize : 0 ≤ msize.toInt ∧ msize.toInt ≤ 900) (i_mat : 0 ≤ mat.toInt ∧ mat.toInt ≤ 900) (i_mfrom : 0 ≤ mfrom.toInt ∧ mfrom.toInt ≤ 900) (i_mtoken : 0 ≤ mtoken.toInt ∧ mtoken.toInt ≤ 4) (i_mvalue : 0 ≤ mvalue.toInt ∧ mvalue.toInt ≤ 99999) (i_mgoalHearer : 0 ≤ mgoalHearer.toInt ∧ mgoalHearer.toInt ≤ 3) (i_mwordsMany : 0 ≤ mwordsMany.toInt ∧ mwordsMany.toInt ≤ 10) (i_mworld : wod mworld) (i_p1 : 0 ≤ p1.toInt ∧ p1.toInt ≤ 3) (i_p2 : 1 ≤ p2.toInt ∧ p2.toInt ≤ 255) (i_p3 : 0 ≤ p3.toInt ∧ p3.toInt ≤ 8) (htd3 : p3.toInt = 8 ∨ (0 ≤ p3.toInt ∧ p3.toInt < (mworld 6).toInt)) : Ct l g yX12_hurtOf cX12_hurtOf 4 (some .int) { frames := 3, cells := 0, slots := 0, locals := 72 } [.ref h0, .int p1, .int p2, .int p3] [(h0, .inr (12, [.int mthrown, .ref a1, .ref a2, .ref a3, .ref a4, .int mtaped, .ref a6, .int msize, .int mat, .int mfrom, .int mtoken, .int mvalue, .int mfaultKind, .int mfaultPlace, .ref a14, .ref a15, .int mgoal, .int mgoalDays, .int mgoalHearer, .ref a19, .ref a20, .int mleastOrder, .int mwordsMany, .ref a23, .ref a24, .ref a25, .ref a26, .ref a27, .ref a28])), (a1, .inl (g.2 0, 225, .inl mworld))] (S := (Nat → Int32) × (Nat → Nat → Int32) × (Nat → Nat → Int64)) (fun u => some (.int (u.1 0))) (fun u => True) (fun u => [(h0, .inr (12, [.int mthrown, .ref a1, .ref a2, .ref a3, .ref a4, .int mtaped, .ref a6, .int msize, .int mat, .int mfrom, .int mtoken, .int mvalue, .int mfaultKind, .int mfaultPlace, .ref a14, .ref a15, .int mgoal, .int mgoalDays, .int mgoalHearer, .ref a19, .ref a20, .int mleastOrder, .int mwordsMany, .ref a23, .ref a24, .ref a25, .ref a26, .ref a27, .ref a28])), (a1, .inl (g.2 0, 225, .inl mworld))]) := by
  refine Ct.of (by decide) (Nat.le_of_ble_eq_true rfl) ?_
  intro p e s m below meth c A ls FX hP hD hS hl
  obtain ⟨FC, hr, hlk, hKn, hA, hnm, hZ⟩ := id FX
  have FC : CallFix p m c cX12_hurtOf 4 s _ BIG RX12 := FC
  obtain ⟨hx, hb, hml, hown, hB⟩ := id FC
  have hl : lv_has ls 4 [(0, .ref h0), (1, .int p1), (2, .int p2), (3, .int p3)] := hl
  refine lv_aload_n hx hb dX12_hurtOf_0 rfl (lv_at hl 0 rfl) ?_
  refine lv_iload_n hx hb dX12_hurtOf_1 rfl (lv_at hl 1 rfl) ?_
  refine lv_iload_n hx hb dX12_hurtOf_2 rfl (lv_at hl 2 rfl) ?_
  refine lv_aload_n hx hb dX12_hurtOf_3 rfl (lv_at hl 0 rfl) ?_
  refine lv_iload_n hx hb dX12_hurtOf_4 rfl (lv_at hl 2 rfl) ?_
  refine lv_iload_n hx hb dX12_hurtOf_5 rfl (lv_at hl 3 rfl) ?_
  refine call_V (As := [.int p2, .int p3]) (rest := [.int p2, .int p1, .ref h0]) (wr := []) FC hKn hZ (k_X12_behindOf l g h0 a1 a2 a3 a4 a6 a14 a15 a19 a20 a23 a24 a25 a26 a27 a28 mthrown mtaped msize mat mfrom mtoken mvalue mfaultKind mfaultPlace mgoal mgoalDays mgoalHearer mleastOrder mwordsMany mworld p2 p3 (by omega) (by omega) (by omega) (by omega) (by omega) (by omega) (by omega) (by omega) i_mworld (by omega) (by omega) (by omega)) m_yX12_behindOf b_854 (ci := 12) rfl rfl rfl hP hD hS hA [0, 1] [] rfl (by decide) rfl (by decide) (by decide) rfl hl.1 rfl (Nat.le_of_ble_eq_true rfl) dX12_hurtOf_6 ⟨(Nat.le_of_ble_eq_true rfl), (Nat.le_of_ble_eq_true rfl)⟩ ⟨(Nat.le_of_ble_eq_true rfl), (Nat.le_of_ble_eq_true rfl)⟩ (fun u1 H locs q2 hP hD hS => ?_)
  have q2_0 : 1 ≤ (u1.1 0).toInt ∧ (u1.1 0).toInt ≤ 255 := q2
  have hP : va_P g.1 vwCl [(h0, .inr (12, [.int mthrown, .ref a1, .ref a2, .ref a3, .ref a4, .int mtaped, .ref a6, .int msize, .int mat, .int mfrom, .int mtoken, .int mvalue, .int mfaultKind, .int mfaultPlace, .ref a14, .ref a15, .int mgoal, .int mgoalDays, .int mgoalHearer, .ref a19, .ref a20, .int mleastOrder, .int mwordsMany, .ref a23, .ref a24, .ref a25, .ref a26, .ref a27, .ref a28])), (a1, .inl (g.2 0, 225, .inl mworld))] H := hP
  have hD : va_D A [(h0, .inr (12, [.int mthrown, .ref a1, .ref a2, .ref a3, .ref a4, .int mtaped, .ref a6, .int msize, .int mat, .int mfrom, .int mtoken, .int mvalue, .int mfaultKind, .int mfaultPlace, .ref a14, .ref a15, .int mgoal, .int mgoalDays, .int mgoalHearer, .ref a19, .ref a20, .int mleastOrder, .int mwordsMany, .ref a23, .ref a24, .ref a25, .ref a26, .ref a27, .ref a28])), (a1, .inl (g.2 0, 225, .inl mworld))] := hD
  refine W.eq (g2 := F0 m 9 ls [.int (u1.1 0), .int p2, .int p1, .ref h0]) rfl ?_
  refine call_V (As := [.int p1, .int p2, .int (u1.1 0)]) (rest := []) (wr := []) FC hKn hZ (k_X12_rise l g h0 a1 a2 a3 a4 a6 a14 a15 a19 a20 a23 a24 a25 a26 a27 a28 mthrown mtaped msize mat mfrom mtoken mvalue mfaultKind mfaultPlace mgoal mgoalDays mgoalHearer mleastOrder mwordsMany mworld p1 p2 (u1.1 0) (by omega) (by omega) (by omega) (by omega) (by omega) (by omega) (by omega) (by omega) i_mworld (by omega) (by omega) (by omega)) m_yX12_rise b_855 (ci := 12) rfl rfl rfl hP hD hS hA [0, 1] [] rfl (by decide) rfl (by decide) (by decide) rfl hl.1 rfl (Nat.le_of_ble_eq_true rfl) dX12_hurtOf_9 ⟨(Nat.le_of_ble_eq_true rfl), (Nat.le_of_ble_eq_true rfl)⟩ ⟨(Nat.le_of_ble_eq_true rfl), (Nat.le_of_ble_eq_true rfl)⟩ (fun u3 H locs q4 hP hD hS => ?_)
  have hP : va_P g.1 vwCl [(h0, .inr (12, [.int mthrown, .ref a1, .ref a2, .ref a3, .ref a4, .int mtaped, .ref a6, .int msize, .int mat, .int mfrom, .int mtoken, .int mvalue, .int mfaultKind, .int mfaultPlace, .ref a14, .ref a15, .int mgoal, .int mgoalDays, .int mgoalHearer, .ref a19, .ref a20, .int mleastOrder, .int mwordsMany, .ref a23, .ref a24, .ref a25, .ref a26, .ref a27, .ref a28])), (a1, .inl (g.2 0, 225, .inl mworld))] H := hP
  have hD : va_D A [(h0, .inr (12, [.int mthrown, .ref a1, .ref a2, .ref a3, .ref a4, .int mtaped, .ref a6, .int msize, .int mat, .int mfrom, .int mtoken, .int mvalue, .int mfaultKind, .int mfaultPlace, .ref a14, .ref a15, .int mgoal, .int mgoalDays, .int mgoalHearer, .ref a19, .ref a20, .int mleastOrder, .int mwordsMany, .ref a23, .ref a24, .ref a25, .ref a26, .ref a27, .ref a28])), (a1, .inl (g.2 0, 225, .inl mworld))] := hD
  refine W.eq (g2 := F0 m 12 ls [.int (u3.1 0)]) rfl ?_
  exact rt_i FX ((fun k => match k with | 0 => u3.1 0 | _ => 0), (fun _ => fun _ => 0), (fun _ => fun _ => 0)) rfl trivial (hP.sub [0, 1] rfl) (hD.sub [0, 1] (by decide) rfl) hS (Nat.le_of_ble_eq_true rfl) (Nat.le_of_ble_eq_true rfl) dX12_hurtOf_12
set_option maxRecDepth 100000 in
set_option maxHeartbeats 4000000 in
theorem k_X12_leftOf (l : Launch) (g : GG) (h0 : Nat) (a1 : Nat) (a2 : Nat) (a3 : Nat) (a4 : Nat) (a6 : Nat) (a14 : Nat) (a15 : Nat) (a19 : Nat) (a20 : Nat) (a23 : Nat) (a24 : Nat) (a25 : Nat) (a26 : Nat) (a27 : Nat) (a28 : Nat) (mthrown : Int32) (mtaped : Int32) (msize : Int32) (mat : Int32) (mfrom : Int32) (mtoken : Int32) (mvalue : Int32) (mfaultKind : Int32) (mfaultPlace : Int32) (mgoal : Int32) (mgoalDays : Int32) (mgoalHearer : Int32) (mleastOrder : Int32) (mwordsMany : Int32) (mworld : Nat → Int32) (p1 : Int32) (p2 : Int32) (p3 : Int32) (i_mtaped : 0 ≤ mtaped.toInt ∧ mtaped.toInt ≤ 900) (i_msize : 0 ≤ msize.toInt ∧ msize.toInt ≤ 900) (i_mat : 0 ≤ mat.toInt ∧ mat.toInt ≤ 900) (i_mfrom : 0 ≤ mfrom.toInt ∧ mfrom.toInt ≤ 900) (i_mtoken : 0 ≤ mtoken.toInt ∧ mtoken.toInt ≤ 4) (i_mvalue : 0 ≤ mvalue.toInt ∧ mvalue.toInt ≤ 99999) (i_mgoalHearer : 0 ≤ mgoalHearer.toInt ∧ mgoalHearer.toInt ≤ 3) (i_mwordsMany : 0 ≤ mwordsMany.toInt ∧ mwordsMany.toInt ≤ 10) (i_mworld : wod mworld) : Ct l g yX12_leftOf cX12_leftOf 4 (some .int) { frames := 1, cells := 0, slots := 0, locals := 15 } [.ref h0, .int p1, .int p2, .int p3] [(h0, .inr (12, [.int mthrown, .ref a1, .ref a2, .ref a3, .ref a4, .int mtaped, .ref a6, .int msize, .int mat, .int mfrom, .int mtoken, .int mvalue, .int mfaultKind, .int mfaultPlace, .ref a14, .ref a15, .int mgoal, .int mgoalDays, .int mgoalHearer, .ref a19, .ref a20, .int mleastOrder, .int mwordsMany, .ref a23, .ref a24, .ref a25, .ref a26, .ref a27, .ref a28])), (a1, .inl (g.2 0, 225, .inl mworld))] (S := (Nat → Int32) × (Nat → Nat → Int32) × (Nat → Nat → Int64)) (fun u => some (.int (u.1 0))) (fun u => True) (fun u => [(h0, .inr (12, [.int mthrown, .ref a1, .ref a2, .ref a3, .ref a4, .int mtaped, .ref a6, .int msize, .int mat, .int mfrom, .int mtoken, .int mvalue, .int mfaultKind, .int mfaultPlace, .ref a14, .ref a15, .int mgoal, .int mgoalDays, .int mgoalHearer, .ref a19, .ref a20, .int mleastOrder, .int mwordsMany, .ref a23, .ref a24, .ref a25, .ref a26, .ref a27, .ref a28])), (a1, .inl (g.2 0, 225, .inl mworld))]) := by
  refine Ct.of (by decide) (Nat.le_of_ble_eq_true rfl) ?_
  intro p e s m below meth c A ls FX hP hD hS hl
  obtain ⟨FC, hr, hlk, hKn, hA, hnm, hZ⟩ := id FX
  have FC : CallFix p m c cX12_leftOf 4 s _ BIG RX12 := FC
  obtain ⟨hx, hb, hml, hown, hB⟩ := id FC
  have hl : lv_has ls 4 [(0, .ref h0), (1, .int p1), (2, .int p2), (3, .int p3)] := hl
  refine lv_iload_n hx hb dX12_leftOf_0 rfl (lv_at hl 1 rfl) ?_
  refine lv_i2l (v := p1.toInt64) hx hb dX12_leftOf_1 rfl ?_
  refine lv_topl (fun z1 e_z1 => ?_)
  have t_z1 : z1.toInt = p1.toInt := by rw [e_z1]; exact Int32.toInt_toInt64 _
  refine lv_iconst (v := 0) hx hb dX12_leftOf_2 (by decide) ?_
  refine lv_bipush (v := 100) hx hb dX12_leftOf_3 (by decide) ?_
  refine lv_aload_n hx hb dX12_leftOf_5 rfl (lv_at hl 0 rfl) ?_
  refine g_get (C := RX12) (T := TX12) (N := 29) (ci := 12) (v := .ref a1) FC hKn hP i_X12 0 rfl rfl 1 (by decide) b_801 rfl dX12_leftOf_6 ?_
  refine lv_iconst (v := 3) hx hb dX12_leftOf_9 (by decide) ?_
  refine va_iald hx hb hKn.1 hP 1 0 rfl rfl (by unfold vp_in; decide) dX12_leftOf_10 ?_
  have kc3 : (3 : Int32).toInt = 3 := by decide
  refine lv_topi (fun z2 e_z2 => ?_)
  have q_z2 : z2.toInt = (mworld 3).toInt := by rw [e_z2]; rfl
  refine lv_iload_n hx hb dX12_leftOf_11 rfl (lv_at hl 3 rfl) ?_
  refine lv_iconst (v := 1) hx hb dX12_leftOf_12 (by decide) ?_
  refine lv_isub hx hb dX12_leftOf_13 ?_
  refine lv_topi (fun z3 e_z3 => ?_)
  refine lv_iload_n hx hb dX12_leftOf_14 rfl (lv_at hl 2 rfl) ?_
  refine lv_isub hx hb dX12_leftOf_15 ?_
  refine lv_topi (fun z4 e_z4 => ?_)
  refine lv_imul hx hb dX12_leftOf_16 ?_
  refine lv_topi (fun z5 e_z5 => ?_)
  refine lv_isub hx hb dX12_leftOf_17 ?_
  refine lv_topi (fun z6 e_z6 => ?_)
  refine va_mmax hx hb (by rw [hml]; exact hl.1.symm) hown (hB _ b_856) (hB _ b_57) (hB _ b_58) (hB _ b_59) (Nat.le_of_ble_eq_true rfl) (Nat.le_of_ble_eq_true rfl) (Nat.le_of_ble_eq_true rfl) (Nat.le_of_ble_eq_true rfl) dX12_leftOf_18 ?_
  have kc0 : (0 : Int32).toInt = 0 := by decide
  refine lv_topi (fun z7 e_z7 => ?_)
  have t_z7 : (((0 : Int32)).toInt ≤ z7.toInt ∧ z6.toInt ≤ z7.toInt ∧ (z7.toInt = ((0 : Int32)).toInt ∨ z7.toInt = z6.toInt)) := by rw [e_z7]; exact mmax_b _ _
  refine lv_i2l (v := z7.toInt64) hx hb dX12_leftOf_21 rfl ?_
  refine lv_topl (fun z8 e_z8 => ?_)
  have t_z8 : z8.toInt = z7.toInt := by rw [e_z8]; exact Int32.toInt_toInt64 _
  refine lv_lmul hx hb dX12_leftOf_22 ?_
  refine lv_topl (fun z9 e_z9 => ?_)
  refine lv_ldc2 hx hb hown (hB _ b_857) dX12_leftOf_23 ?_
  refine lv_ldiv hx hb dX12_leftOf_26 (by decide) ?_
  refine lv_topl (fun z10 e_z10 => ?_)
  refine lv_l2i hx hb dX12_leftOf_27 rfl ?_
  refine lv_topi (fun z11 e_z11 => ?_)
  exact rt_i FX ((fun k => match k with | 0 => z11 | _ => 0), (fun _ => fun _ => 0), (fun _ => fun _ => 0)) rfl trivial (hP.sub [0, 1] rfl) (hD.sub [0, 1] (by decide) rfl) hS (Nat.le_of_ble_eq_true rfl) (Nat.le_of_ble_eq_true rfl) dX12_leftOf_28
set_option maxRecDepth 100000 in
set_option maxHeartbeats 4000000 in
theorem k_X12_mixed (l : Launch) (g : GG) (h0 : Nat) (a1 : Nat) (a2 : Nat) (a3 : Nat) (a4 : Nat) (a6 : Nat) (a14 : Nat) (a15 : Nat) (a19 : Nat) (a20 : Nat) (a23 : Nat) (a24 : Nat) (a25 : Nat) (a26 : Nat) (a27 : Nat) (a28 : Nat) (mthrown : Int32) (mtaped : Int32) (msize : Int32) (mat : Int32) (mfrom : Int32) (mtoken : Int32) (mvalue : Int32) (mfaultKind : Int32) (mfaultPlace : Int32) (mgoal : Int32) (mgoalDays : Int32) (mgoalHearer : Int32) (mleastOrder : Int32) (mwordsMany : Int32) (mworld : Nat → Int32) (p1 : Int32) (p2 : Int32) (i_mtaped : 0 ≤ mtaped.toInt ∧ mtaped.toInt ≤ 900) (i_msize : 0 ≤ msize.toInt ∧ msize.toInt ≤ 900) (i_mat : 0 ≤ mat.toInt ∧ mat.toInt ≤ 900) (i_mfrom : 0 ≤ mfrom.toInt ∧ mfrom.toInt ≤ 900) (i_mtoken : 0 ≤ mtoken.toInt ∧ mtoken.toInt ≤ 4) (i_mvalue : 0 ≤ mvalue.toInt ∧ mvalue.toInt ≤ 99999) (i_mgoalHearer : 0 ≤ mgoalHearer.toInt ∧ mgoalHearer.toInt ≤ 3) (i_mwordsMany : 0 ≤ mwordsMany.toInt ∧ mwordsMany.toInt ≤ 10) (i_mworld : wod mworld) : Ct l g yX12_mixed cX12_mixed 3 (some .int) { frames := 0, cells := 0, slots := 0, locals := 0 } [.ref h0, .int p1, .int p2] [(h0, .inr (12, [.int mthrown, .ref a1, .ref a2, .ref a3, .ref a4, .int mtaped, .ref a6, .int msize, .int mat, .int mfrom, .int mtoken, .int mvalue, .int mfaultKind, .int mfaultPlace, .ref a14, .ref a15, .int mgoal, .int mgoalDays, .int mgoalHearer, .ref a19, .ref a20, .int mleastOrder, .int mwordsMany, .ref a23, .ref a24, .ref a25, .ref a26, .ref a27, .ref a28])), (a1, .inl (g.2 0, 225, .inl mworld))] (S := (Nat → Int32) × (Nat → Nat → Int32) × (Nat → Nat → Int64)) (fun u => some (.int (u.1 0))) (fun u => True) (fun u => [(h0, .inr (12, [.int mthrown, .ref a1, .ref a2, .ref a3, .ref a4, .int mtaped, .ref a6, .int msize, .int mat, .int mfrom, .int mtoken, .int mvalue, .int mfaultKind, .int mfaultPlace, .ref a14, .ref a15, .int mgoal, .int mgoalDays, .int mgoalHearer, .ref a19, .ref a20, .int mleastOrder, .int mwordsMany, .ref a23, .ref a24, .ref a25, .ref a26, .ref a27, .ref a28])), (a1, .inl (g.2 0, 225, .inl mworld))]) := by
  refine Ct.of (by decide) (Nat.le_of_ble_eq_true rfl) ?_
  intro p e s m below meth c A ls FX hP hD hS hl
  obtain ⟨FC, hr, hlk, hKn, hA, hnm, hZ⟩ := id FX
  have FC : CallFix p m c cX12_mixed 3 s _ BIG RX12 := FC
  obtain ⟨hx, hb, hml, hown, hB⟩ := id FC
  have hl : lv_has ls 3 [(0, .ref h0), (1, .int p1), (2, .int p2)] := hl
  refine lv_aload_n hx hb dX12_mixed_0 rfl (lv_at hl 0 rfl) ?_
  refine g_get (C := RX12) (T := TX12) (N := 29) (ci := 12) (v := .ref a1) FC hKn hP i_X12 0 rfl rfl 1 (by decide) b_801 rfl dX12_mixed_1 ?_
  refine lv_iconst (v := 4) hx hb dX12_mixed_4 (by decide) ?_
  refine va_iald hx hb hKn.1 hP 1 0 rfl rfl (by unfold vp_in; decide) dX12_mixed_5 ?_
  have kc4 : (4 : Int32).toInt = 4 := by decide
  refine lv_topi (fun z1 e_z1 => ?_)
  have q_z1 : z1.toInt = (mworld 4).toInt := by rw [e_z1]; rfl
  refine lv_i2l (v := z1.toInt64) hx hb dX12_mixed_6 rfl ?_
  refine lv_topl (fun z2 e_z2 => ?_)
  have t_z2 : z2.toInt = z1.toInt := by rw [e_z2]; exact Int32.toInt_toInt64 _
  refine lv_iload_n hx hb dX12_mixed_7 rfl (lv_at hl 1 rfl) ?_
  refine lv_i2l (v := p1.toInt64) hx hb dX12_mixed_8 rfl ?_
  refine lv_topl (fun z3 e_z3 => ?_)
  have t_z3 : z3.toInt = p1.toInt := by rw [e_z3]; exact Int32.toInt_toInt64 _
  refine lv_lmul hx hb dX12_mixed_9 ?_
  refine lv_topl (fun z4 e_z4 => ?_)
  refine lv_ldc2 hx hb hown (hB _ b_857) dX12_mixed_10 ?_
  refine lv_aload_n hx hb dX12_mixed_13 rfl (lv_at hl 0 rfl) ?_
  refine g_get (C := RX12) (T := TX12) (N := 29) (ci := 12) (v := .ref a1) FC hKn hP i_X12 0 rfl rfl 1 (by decide) b_801 rfl dX12_mixed_14 ?_
  refine lv_iconst (v := 4) hx hb dX12_mixed_17 (by decide) ?_
  refine va_iald hx hb hKn.1 hP 1 0 rfl rfl (by unfold vp_in; decide) dX12_mixed_18 ?_
  refine tp_i (v := z1) e_z1.symm ?_
  refine lv_i2l (v := z1.toInt64) hx hb dX12_mixed_19 rfl ?_
  refine lv_topl (fun z5 e_z5 => ?_)
  have t_z5 : z5.toInt = z1.toInt := by rw [e_z5]; exact Int32.toInt_toInt64 _
  refine lv_lsub hx hb dX12_mixed_20 ?_
  refine lv_topl (fun z6 e_z6 => ?_)
  refine lv_iload_n hx hb dX12_mixed_21 rfl (lv_at hl 2 rfl) ?_
  refine lv_i2l (v := p2.toInt64) hx hb dX12_mixed_22 rfl ?_
  refine lv_topl (fun z7 e_z7 => ?_)
  have t_z7 : z7.toInt = p2.toInt := by rw [e_z7]; exact Int32.toInt_toInt64 _
  refine lv_lmul hx hb dX12_mixed_23 ?_
  refine lv_topl (fun z8 e_z8 => ?_)
  refine lv_ladd hx hb dX12_mixed_24 ?_
  refine lv_topl (fun z9 e_z9 => ?_)
  refine lv_ldc2 hx hb hown (hB _ b_857) dX12_mixed_25 ?_
  refine lv_ldiv hx hb dX12_mixed_28 (by decide) ?_
  refine lv_topl (fun z10 e_z10 => ?_)
  refine lv_l2i hx hb dX12_mixed_29 rfl ?_
  refine lv_topi (fun z11 e_z11 => ?_)
  exact rt_i FX ((fun k => match k with | 0 => z11 | _ => 0), (fun _ => fun _ => 0), (fun _ => fun _ => 0)) rfl trivial (hP.sub [0, 1] rfl) (hD.sub [0, 1] (by decide) rfl) hS (Nat.le_of_ble_eq_true rfl) (Nat.le_of_ble_eq_true rfl) dX12_mixed_30
