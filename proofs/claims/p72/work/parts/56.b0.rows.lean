set_option maxRecDepth 100000 in
set_option maxHeartbeats 4000000 in
theorem k_X12_numberAt (l : Launch) (g : GG) (h0 : Nat) (a1 : Nat) (a2 : Nat) (a3 : Nat) (a4 : Nat) (a6 : Nat) (a14 : Nat) (a15 : Nat) (a19 : Nat) (a20 : Nat) (a23 : Nat) (a24 : Nat) (a25 : Nat) (a26 : Nat) (a27 : Nat) (a28 : Nat) (mthrown : Int32) (mtaped : Int32) (msize : Int32) (mat : Int32) (mfrom : Int32) (mtoken : Int32) (mvalue : Int32) (mfaultKind : Int32) (mfaultPlace : Int32) (mgoal : Int32) (mgoalDays : Int32) (mgoalHearer : Int32) (mleastOrder : Int32) (mwordsMany : Int32) (mnumbers : Nat → Int64) (p1 : Int32) (p2 : Int32) (i_mtaped : 0 ≤ mtaped.toInt ∧ mtaped.toInt ≤ 900) (i_msize : 0 ≤ msize.toInt ∧ msize.toInt ≤ 900) (i_mat : 0 ≤ mat.toInt ∧ mat.toInt ≤ 900) (i_mfrom : 0 ≤ mfrom.toInt ∧ mfrom.toInt ≤ 900) (i_mtoken : 0 ≤ mtoken.toInt ∧ mtoken.toInt ≤ 4) (i_mvalue : 0 ≤ mvalue.toInt ∧ mvalue.toInt ≤ 99999) (i_mgoalHearer : 0 ≤ mgoalHearer.toInt ∧ mgoalHearer.toInt ≤ 3) (i_mwordsMany : 0 ≤ mwordsMany.toInt ∧ mwordsMany.toInt ≤ 10) (i_p1 : 0 ≤ p1.toInt ∧ p1.toInt ≤ 3) (i_p2 : 0 ≤ p2.toInt ∧ p2.toInt ≤ 59) : Ct l g yX12_numberAt cX12_numberAt 3 (some .long) { frames := 0, cells := 0, slots := 0, locals := 0 } [.ref h0, .int p1, .int p2] [(h0, .inr (12, [.int mthrown, .ref a1, .ref a2, .ref a3, .ref a4, .int mtaped, .ref a6, .int msize, .int mat, .int mfrom, .int mtoken, .int mvalue, .int mfaultKind, .int mfaultPlace, .ref a14, .ref a15, .int mgoal, .int mgoalDays, .int mgoalHearer, .ref a19, .ref a20, .int mleastOrder, .int mwordsMany, .ref a23, .ref a24, .ref a25, .ref a26, .ref a27, .ref a28])), (a27, .inl (g.2 3, 240, .inr (.inl mnumbers)))] (S := (Nat → Int32) × (Nat → Nat → Int32) × (Nat → Nat → Int64)) (fun u => some (.long (u.2.2 9 0))) (fun u => (u.2.2 9 0 = nmF mnumbers p1 p2)) (fun u => [(h0, .inr (12, [.int mthrown, .ref a1, .ref a2, .ref a3, .ref a4, .int mtaped, .ref a6, .int msize, .int mat, .int mfrom, .int mtoken, .int mvalue, .int mfaultKind, .int mfaultPlace, .ref a14, .ref a15, .int mgoal, .int mgoalDays, .int mgoalHearer, .ref a19, .ref a20, .int mleastOrder, .int mwordsMany, .ref a23, .ref a24, .ref a25, .ref a26, .ref a27, .ref a28])), (a27, .inl (g.2 3, 240, .inr (.inl mnumbers)))]) := by
  refine Ct.of (by decide) (Nat.le_of_ble_eq_true rfl) ?_
  intro p e s m below meth c A ls FX hP hD hS hl
  obtain ⟨FC, hr, hlk, hKn, hA, hnm, hZ⟩ := id FX
  have FC : CallFix p m c cX12_numberAt 3 s _ BIG RX12 := FC
  obtain ⟨hx, hb, hml, hown, hB⟩ := id FC
  have hl : lv_has ls 3 [(0, .ref h0), (1, .int p1), (2, .int p2)] := hl
  refine lv_aload_n hx hb dX12_numberAt_0 rfl (lv_at hl 0 rfl) ?_
  refine g_get (C := RX12) (T := TX12) (N := 29) (ci := 12) (v := .ref a27) FC hKn hP i_X12 0 rfl rfl 27 (by decide) b_929 rfl dX12_numberAt_1 ?_
  refine lv_bipush (v := 60) hx hb dX12_numberAt_4 (by decide) ?_
  refine lv_iload_n hx hb dX12_numberAt_6 rfl (lv_at hl 1 rfl) ?_
  refine lv_imul hx hb dX12_numberAt_7 ?_
  have kc60 : (60 : Int32).toInt = 60 := by decide
  refine lv_topi (fun z1 e_z1 => ?_)
  have t_z1 : z1.toInt = 60 * p1.toInt := by rw [e_z1, fb_mulI (by rw [show (60 : Int32).toInt = 60 by decide]; omega) (by rw [show (60 : Int32).toInt = 60 by decide]; omega), show (60 : Int32).toInt = 60 by decide]
  refine lv_iload_n hx hb dX12_numberAt_8 rfl (lv_at hl 2 rfl) ?_
  refine lv_iadd hx hb dX12_numberAt_9 ?_
  refine lv_topi (fun z2 e_z2 => ?_)
  have t_z2 : z2.toInt = z1.toInt + p2.toInt := by rw [e_z2]; exact fb_addI (by omega) (by omega)
  refine va_lald hx hb hKn.1 hP 1 3 rfl rfl (vp_in_iff.mpr ⟨by omega, by omega⟩) dX12_numberAt_10 ?_
  refine lv_topl (fun z3 e_z3 => ?_)
  exact rt_l FX ((fun k => match k with | 0 => 0 | _ => 0), (fun _ => fun _ => 0), (fun k => match k with | 9 => (fun _ => z3) | _ => fun _ => 0)) rfl (show _ = _ by rw [e_z3, ixe (x := z2) (n := 60 * p1.toInt.toNat + p2.toInt.toNat) (by omega)]; rfl) (hP.sub [0, 1] rfl) (hD.sub [0, 1] (by decide) rfl) hS (Nat.le_of_ble_eq_true rfl) (Nat.le_of_ble_eq_true rfl) dX12_numberAt_11
set_option maxRecDepth 100000 in
set_option maxHeartbeats 4000000 in
theorem k_X12_toldAt (l : Launch) (g : GG) (h0 : Nat) (a1 : Nat) (a2 : Nat) (a3 : Nat) (a4 : Nat) (a6 : Nat) (a14 : Nat) (a15 : Nat) (a19 : Nat) (a20 : Nat) (a23 : Nat) (a24 : Nat) (a25 : Nat) (a26 : Nat) (a27 : Nat) (a28 : Nat) (mthrown : Int32) (mtaped : Int32) (msize : Int32) (mat : Int32) (mfrom : Int32) (mtoken : Int32) (mvalue : Int32) (mfaultKind : Int32) (mfaultPlace : Int32) (mgoal : Int32) (mgoalDays : Int32) (mgoalHearer : Int32) (mleastOrder : Int32) (mwordsMany : Int32) (mworld : Nat → Int32) (mnumbers : Nat → Int64) (mmany : Nat → Int32) (p1 : Int32) (p2 : Int32) (i_mtaped : 0 ≤ mtaped.toInt ∧ mtaped.toInt ≤ 900) (i_msize : 0 ≤ msize.toInt ∧ msize.toInt ≤ 900) (i_mat : 0 ≤ mat.toInt ∧ mat.toInt ≤ 900) (i_mfrom : 0 ≤ mfrom.toInt ∧ mfrom.toInt ≤ 900) (i_mtoken : 0 ≤ mtoken.toInt ∧ mtoken.toInt ≤ 4) (i_mvalue : 0 ≤ mvalue.toInt ∧ mvalue.toInt ≤ 99999) (i_mgoalHearer : 0 ≤ mgoalHearer.toInt ∧ mgoalHearer.toInt ≤ 3) (i_mwordsMany : 0 ≤ mwordsMany.toInt ∧ mwordsMany.toInt ≤ 10) (i_mworld : wod mworld) (i_mmany : ab mmany 4 (-1) 60) (hw : wkok mworld mnumbers mmany p1) (hi1 : 0 ≤ p2.toInt) (hi2 : p2.toInt < (mmany p1.toNatClampNeg).toInt) : Ct l g yX12_toldAt cX12_toldAt 3 (some .int) { frames := 1, cells := 0, slots := 0, locals := 22 } [.ref h0, .int p1, .int p2] [(h0, .inr (12, [.int mthrown, .ref a1, .ref a2, .ref a3, .ref a4, .int mtaped, .ref a6, .int msize, .int mat, .int mfrom, .int mtoken, .int mvalue, .int mfaultKind, .int mfaultPlace, .ref a14, .ref a15, .int mgoal, .int mgoalDays, .int mgoalHearer, .ref a19, .ref a20, .int mleastOrder, .int mwordsMany, .ref a23, .ref a24, .ref a25, .ref a26, .ref a27, .ref a28])), (a1, .inl (g.2 0, 225, .inl mworld)), (a27, .inl (g.2 3, 240, .inr (.inl mnumbers))), (a25, .inl (g.2 0, 4, .inl mmany))] (S := (Nat → Int32) × (Nat → Nat → Int32) × (Nat → Nat → Int64)) (fun u => some (.int (u.1 0))) (fun u => (0 ≤ (u.1 0).toInt ∧ (u.1 0).toInt ≤ 8) ∧ (u.1 0 = tdF mnumbers p1 p2) ∧ ((u.1 0).toInt = 8 ∨ (0 ≤ (u.1 0).toInt ∧ (u.1 0).toInt < (mworld 6).toInt))) (fun u => [(h0, .inr (12, [.int mthrown, .ref a1, .ref a2, .ref a3, .ref a4, .int mtaped, .ref a6, .int msize, .int mat, .int mfrom, .int mtoken, .int mvalue, .int mfaultKind, .int mfaultPlace, .ref a14, .ref a15, .int mgoal, .int mgoalDays, .int mgoalHearer, .ref a19, .ref a20, .int mleastOrder, .int mwordsMany, .ref a23, .ref a24, .ref a25, .ref a26, .ref a27, .ref a28])), (a1, .inl (g.2 0, 225, .inl mworld)), (a27, .inl (g.2 3, 240, .inr (.inl mnumbers))), (a25, .inl (g.2 0, 4, .inl mmany))]) := by
  refine Ct.of (by decide) (Nat.le_of_ble_eq_true rfl) ?_
  intro p e s m below meth c A ls FX hP hD hS hl
  obtain ⟨FC, hr, hlk, hKn, hA, hnm, hZ⟩ := id FX
  have FC : CallFix p m c cX12_toldAt 3 s _ BIG RX12 := FC
  obtain ⟨hx, hb, hml, hown, hB⟩ := id FC
  have hl : lv_has ls 3 [(0, .ref h0), (1, .int p1), (2, .int p2)] := hl
  have hwb := hw.2.1
  have hwa := hw.1
  refine lv_aload_n hx hb dX12_toldAt_0 rfl (lv_at hl 0 rfl) ?_
  refine lv_iload_n hx hb dX12_toldAt_1 rfl (lv_at hl 1 rfl) ?_
  refine lv_iload_n hx hb dX12_toldAt_2 rfl (lv_at hl 2 rfl) ?_
  refine call_V (As := [.int p1, .int p2]) (rest := []) (wr := [(a1, .inl (g.2 0, 225, .inl mworld)), (a25, .inl (g.2 0, 4, .inl mmany))]) FC hKn hZ (k_X12_numberAt l g h0 a1 a2 a3 a4 a6 a14 a15 a19 a20 a23 a24 a25 a26 a27 a28 mthrown mtaped msize mat mfrom mtoken mvalue mfaultKind mfaultPlace mgoal mgoalDays mgoalHearer mleastOrder mwordsMany mnumbers p1 p2 (by omega) (by omega) (by omega) (by omega) (by omega) (by omega) (by omega) (by omega) (by omega) (by omega)) m_yX12_numberAt b_930 (ci := 12) rfl rfl rfl hP hD hS hA [0, 2] [1, 3] rfl (by decide) rfl (by decide) (by decide) rfl hl.1 rfl (Nat.le_of_ble_eq_true rfl) dX12_toldAt_3 ⟨(Nat.le_of_ble_eq_true rfl), (Nat.le_of_ble_eq_true rfl)⟩ ⟨(Nat.le_of_ble_eq_true rfl), (Nat.le_of_ble_eq_true rfl)⟩ (fun u1 H locs q2 hP hD hS => ?_)
  have q2_0 : u1.2.2 9 0 = nmF mnumbers p1 p2 := q2
  have hP : va_P g.1 vwCl [(a1, .inl (g.2 0, 225, .inl mworld)), (a25, .inl (g.2 0, 4, .inl mmany)), (h0, .inr (12, [.int mthrown, .ref a1, .ref a2, .ref a3, .ref a4, .int mtaped, .ref a6, .int msize, .int mat, .int mfrom, .int mtoken, .int mvalue, .int mfaultKind, .int mfaultPlace, .ref a14, .ref a15, .int mgoal, .int mgoalDays, .int mgoalHearer, .ref a19, .ref a20, .int mleastOrder, .int mwordsMany, .ref a23, .ref a24, .ref a25, .ref a26, .ref a27, .ref a28])), (a27, .inl (g.2 3, 240, .inr (.inl mnumbers)))] H := hP
  have hD : va_D A [(a1, .inl (g.2 0, 225, .inl mworld)), (a25, .inl (g.2 0, 4, .inl mmany)), (h0, .inr (12, [.int mthrown, .ref a1, .ref a2, .ref a3, .ref a4, .int mtaped, .ref a6, .int msize, .int mat, .int mfrom, .int mtoken, .int mvalue, .int mfaultKind, .int mfaultPlace, .ref a14, .ref a15, .int mgoal, .int mgoalDays, .int mgoalHearer, .ref a19, .ref a20, .int mleastOrder, .int mwordsMany, .ref a23, .ref a24, .ref a25, .ref a26, .ref a27, .ref a28])), (a27, .inl (g.2 3, 240, .inr (.inl mnumbers)))] := hD
  refine W.eq (g2 := F0 m 6 ls [.long (u1.2.2 9 0)]) rfl ?_
  refine tp_l (v := nmF mnumbers p1 p2) q2_0 ?_
  refine lv_l2i hx hb dX12_toldAt_6 rfl ?_
  refine lv_topi (fun z3 e_z3 => ?_)
  have x_z3 : z3 = tdF mnumbers p1 p2 := by rw [e_z3]; rfl
  have b_z3 := td_b hw (wk_6 i_mworld.1).2 hi1 hi2
  rw [← x_z3] at b_z3
  exact rt_i FX ((fun k => match k with | 0 => z3 | _ => 0), (fun _ => fun _ => 0), (fun _ => fun _ => 0)) rfl ⟨(show 0 ≤ z3.toInt ∧ z3.toInt ≤ 8 by omega), (show z3 = tdF mnumbers p1 p2 from x_z3), (show (z3).toInt = 8 ∨ (0 ≤ (z3).toInt ∧ (z3).toInt < (mworld 6).toInt) by omega)⟩ (hP.sub [2, 0, 3, 1] rfl) (hD.sub [2, 0, 3, 1] (by decide) rfl) hS (Nat.le_of_ble_eq_true rfl) (Nat.le_of_ble_eq_true rfl) dX12_toldAt_7
set_option maxRecDepth 100000 in
set_option maxHeartbeats 4000000 in
theorem k_X12_isSlot (l : Launch) (g : GG) (p1 : Int32) : Ct l g yX12_isSlot cX12_isSlot 1 (some .boolean) { frames := 1, cells := 0, slots := 0, locals := 25 } [.int p1] [] (S := (Nat → Int32) × (Nat → Nat → Int32) × (Nat → Nat → Int64)) (fun u => some (.int (u.1 0))) (fun u => (0 ≤ (u.1 0).toInt ∧ (u.1 0).toInt ≤ 1) ∧ ((u.1 0).toInt = 0 → (p1.toInt < 0 ∨ 3 < p1.toInt)) ∧ ((u.1 0).toInt = 1 → 0 ≤ p1.toInt ∧ p1.toInt ≤ 3)) (fun u => []) := by
  refine Ct.of (by decide) (Nat.le_of_ble_eq_true rfl) ?_
  intro p e s m below meth c A ls FX hP hD hS hl
  obtain ⟨FC, hr, hlk, hKn, hA, hnm, hZ⟩ := id FX
  have FC : CallFix p m c cX12_isSlot 1 s _ BIG RX12 := FC
  obtain ⟨hx, hb, hml, hown, hB⟩ := id FC
  have hl : lv_has ls 1 [(0, .int p1)] := hl
  refine lv_iload_n hx hb dX12_isSlot_0 rfl (lv_at hl 0 rfl) ?_
  refine lv_i2l (v := p1.toInt64) hx hb dX12_isSlot_1 rfl ?_
  refine lv_topl (fun z1 e_z1 => ?_)
  have t_z1 : z1.toInt = p1.toInt := by rw [e_z1]; exact Int32.toInt_toInt64 _
  refine lv_lconst (v := 0) hx hb dX12_isSlot_2 (by decide) ?_
  refine lv_ldc2 hx hb hown (hB _ b_931) dX12_isSlot_3 ?_
  have kcl0 : (0 : Int64).toInt = 0 := by decide
  have kcl3 : (3 : Int64).toInt = 3 := by decide
  refine call_S (As := [.long z1, .long 0, .long 3]) (rest := []) (wr := []) FC hKn hZ (k_X12_in l g z1 ((0 : Int64)) ((3 : Int64))) m_yX12_in b_802 hP hD hS hA [] [] rfl (by decide) rfl (by decide) (by decide) rfl hl.1 rfl (Nat.le_of_ble_eq_true rfl) dX12_isSlot_6 ⟨(Nat.le_of_ble_eq_true rfl), (Nat.le_of_ble_eq_true rfl)⟩ ⟨(Nat.le_of_ble_eq_true rfl), (Nat.le_of_ble_eq_true rfl)⟩ (fun u2 H locs q3 hP hD hS => ?_)
  obtain ⟨q3_0, q3_1, q3_2⟩ := q3
  have hP : va_P g.1 vwCl [] H := hP
  have hD : va_D A [] := hD
  refine W.eq (g2 := F0 m 9 ls [.int (u2.1 0)]) rfl ?_
  rcases (show (u2.1 0).toInt = 0 ∨ (u2.1 0).toInt = 1 by omega) with c4 | c4
  · skip
    exact rt_z FX (nb (by omega) (by omega)).1 ((fun k => match k with | 0 => u2.1 0 | _ => 0), (fun _ => fun _ => 0), (fun _ => fun _ => 0)) rfl ⟨(show 0 ≤ (u2.1 0).toInt ∧ (u2.1 0).toInt ≤ 1 by omega), (show (u2.1 0).toInt = 0 → (p1.toInt < 0 ∨ 3 < p1.toInt) by omega), (fun h9 => absurd (show (u2.1 0).toInt = 1 from h9) (by omega))⟩ (hP.sub [] rfl) (hD.sub [] (by decide) rfl) hS (Nat.le_of_ble_eq_true rfl) (Nat.le_of_ble_eq_true rfl) dX12_isSlot_9
  · have c4_r := q3_2 c4
    exact rt_z FX (nb (by omega) (by omega)).1 ((fun k => match k with | 0 => u2.1 0 | _ => 0), (fun _ => fun _ => 0), (fun _ => fun _ => 0)) rfl ⟨(show 0 ≤ (u2.1 0).toInt ∧ (u2.1 0).toInt ≤ 1 by omega), (show (u2.1 0).toInt = 0 → (p1.toInt < 0 ∨ 3 < p1.toInt) by omega), (fun _ => by omega)⟩ (hP.sub [] rfl) (hD.sub [] (by decide) rfl) hS (Nat.le_of_ble_eq_true rfl) (Nat.le_of_ble_eq_true rfl) dX12_isSlot_9
set_option maxRecDepth 100000 in
set_option maxHeartbeats 4000000 in
theorem k_X12_isSeed (l : Launch) (g : GG) (p1 : Int32) : Ct l g yX12_isSeed cX12_isSeed 1 (some .boolean) { frames := 1, cells := 0, slots := 0, locals := 25 } [.int p1] [] (S := (Nat → Int32) × (Nat → Nat → Int32) × (Nat → Nat → Int64)) (fun u => some (.int (u.1 0))) (fun u => (0 ≤ (u.1 0).toInt ∧ (u.1 0).toInt ≤ 1) ∧ ((u.1 0).toInt = 1 → 0 ≤ p1.toInt ∧ p1.toInt ≤ 2000000000)) (fun u => []) := by
  refine Ct.of (by decide) (Nat.le_of_ble_eq_true rfl) ?_
  intro p e s m below meth c A ls FX hP hD hS hl
  obtain ⟨FC, hr, hlk, hKn, hA, hnm, hZ⟩ := id FX
  have FC : CallFix p m c cX12_isSeed 1 s _ BIG RX12 := FC
  obtain ⟨hx, hb, hml, hown, hB⟩ := id FC
  have hl : lv_has ls 1 [(0, .int p1)] := hl
  refine lv_iload_n hx hb dX12_isSeed_0 rfl (lv_at hl 0 rfl) ?_
  refine lv_i2l (v := p1.toInt64) hx hb dX12_isSeed_1 rfl ?_
  refine lv_topl (fun z1 e_z1 => ?_)
  have t_z1 : z1.toInt = p1.toInt := by rw [e_z1]; exact Int32.toInt_toInt64 _
  refine lv_lconst (v := 0) hx hb dX12_isSeed_2 (by decide) ?_
  refine lv_ldc2 hx hb hown (hB _ b_932) dX12_isSeed_3 ?_
  have kcl0 : (0 : Int64).toInt = 0 := by decide
  have kcl2000000000 : (2000000000 : Int64).toInt = 2000000000 := by decide
  refine call_S (As := [.long z1, .long 0, .long 2000000000]) (rest := []) (wr := []) FC hKn hZ (k_X12_in l g z1 ((0 : Int64)) ((2000000000 : Int64))) m_yX12_in b_802 hP hD hS hA [] [] rfl (by decide) rfl (by decide) (by decide) rfl hl.1 rfl (Nat.le_of_ble_eq_true rfl) dX12_isSeed_6 ⟨(Nat.le_of_ble_eq_true rfl), (Nat.le_of_ble_eq_true rfl)⟩ ⟨(Nat.le_of_ble_eq_true rfl), (Nat.le_of_ble_eq_true rfl)⟩ (fun u2 H locs q3 hP hD hS => ?_)
  obtain ⟨q3_0, q3_1, q3_2⟩ := q3
  have hP : va_P g.1 vwCl [] H := hP
  have hD : va_D A [] := hD
  refine W.eq (g2 := F0 m 9 ls [.int (u2.1 0)]) rfl ?_
  rcases (show (u2.1 0).toInt = 0 ∨ (u2.1 0).toInt = 1 by omega) with c4 | c4
  · skip
    exact rt_z FX (nb (by omega) (by omega)).1 ((fun k => match k with | 0 => u2.1 0 | _ => 0), (fun _ => fun _ => 0), (fun _ => fun _ => 0)) rfl ⟨(show 0 ≤ (u2.1 0).toInt ∧ (u2.1 0).toInt ≤ 1 by omega), (fun h9 => absurd (show (u2.1 0).toInt = 1 from h9) (by omega))⟩ (hP.sub [] rfl) (hD.sub [] (by decide) rfl) hS (Nat.le_of_ble_eq_true rfl) (Nat.le_of_ble_eq_true rfl) dX12_isSeed_9
  · have c4_r := q3_2 c4
    exact rt_z FX (nb (by omega) (by omega)).1 ((fun k => match k with | 0 => u2.1 0 | _ => 0), (fun _ => fun _ => 0), (fun _ => fun _ => 0)) rfl ⟨(show 0 ≤ (u2.1 0).toInt ∧ (u2.1 0).toInt ≤ 1 by omega), (fun _ => by omega)⟩ (hP.sub [] rfl) (hD.sub [] (by decide) rfl) hS (Nat.le_of_ble_eq_true rfl) (Nat.le_of_ble_eq_true rfl) dX12_isSeed_9
set_option maxRecDepth 100000 in
set_option maxHeartbeats 4000000 in
theorem k_X12_asksWeek (l : Launch) (g : GG) (h0 : Nat) (a1 : Nat) (a2 : Nat) (a3 : Nat) (a4 : Nat) (a6 : Nat) (a14 : Nat) (a15 : Nat) (a19 : Nat) (a20 : Nat) (a23 : Nat) (a24 : Nat) (a25 : Nat) (a26 : Nat) (a27 : Nat) (a28 : Nat) (mthrown : Int32) (mtaped : Int32) (msize : Int32) (mat : Int32) (mfrom : Int32) (mtoken : Int32) (mvalue : Int32) (mfaultKind : Int32) (mfaultPlace : Int32) (mgoal : Int32) (mgoalDays : Int32) (mgoalHearer : Int32) (mleastOrder : Int32) (mwordsMany : Int32) (mworld : Nat → Int32) (mnumbers : Nat → Int64) (mmany : Nat → Int32) (p1 : Int32) (p2 : Int32) (i_mtaped : 0 ≤ mtaped.toInt ∧ mtaped.toInt ≤ 900) (i_msize : 0 ≤ msize.toInt ∧ msize.toInt ≤ 900) (i_mat : 0 ≤ mat.toInt ∧ mat.toInt ≤ 900) (i_mfrom : 0 ≤ mfrom.toInt ∧ mfrom.toInt ≤ 900) (i_mtoken : 0 ≤ mtoken.toInt ∧ mtoken.toInt ≤ 4) (i_mvalue : 0 ≤ mvalue.toInt ∧ mvalue.toInt ≤ 99999) (i_mgoalHearer : 0 ≤ mgoalHearer.toInt ∧ mgoalHearer.toInt ≤ 3) (i_mwordsMany : 0 ≤ mwordsMany.toInt ∧ mwordsMany.toInt ≤ 10) (i_mworld : wod mworld) (i_mmany : ab mmany 4 (-1) 60) (i_p2 : 0 ≤ p2.toInt ∧ p2.toInt ≤ 1) : Ct l g yX12_asksWeek cX12_asksWeek 4 (some .int) { frames := 3, cells := 0, slots := 0, locals := 69 } [.ref h0, .int p1, .int p2] [(h0, .inr (12, [.int mthrown, .ref a1, .ref a2, .ref a3, .ref a4, .int mtaped, .ref a6, .int msize, .int mat, .int mfrom, .int mtoken, .int mvalue, .int mfaultKind, .int mfaultPlace, .ref a14, .ref a15, .int mgoal, .int mgoalDays, .int mgoalHearer, .ref a19, .ref a20, .int mleastOrder, .int mwordsMany, .ref a23, .ref a24, .ref a25, .ref a26, .ref a27, .ref a28])), (a1, .inl (g.2 0, 225, .inl mworld)), (a27, .inl (g.2 3, 240, .inr (.inl mnumbers))), (a25, .inl (g.2 0, 4, .inl mmany))] (S := (Nat → Int32) × (Nat → Nat → Int32) × (Nat → Nat → Int64)) (fun u => some (.int (u.1 0))) (fun u => (-6 ≤ (u.1 0).toInt ∧ (u.1 0).toInt ≤ 0) ∧ ((u.1 0).toInt = 0 → wkok mworld mnumbers mmany p1) ∧ ((u.1 0).toInt = 0 → p2.toInt = 1)) (fun u => [(h0, .inr (12, [.int mthrown, .ref a1, .ref a2, .ref a3, .ref a4, .int mtaped, .ref a6, .int msize, .int mat, .int mfrom, .int mtoken, .int mvalue, .int mfaultKind, .int mfaultPlace, .ref a14, .ref a15, .int mgoal, .int mgoalDays, .int mgoalHearer, .ref a19, .ref a20, .int mleastOrder, .int mwordsMany, .ref a23, .ref a24, .ref a25, .ref a26, .ref a27, .ref a28])), (a1, .inl (g.2 0, 225, .inl mworld)), (a27, .inl (g.2 3, 240, .inr (.inl mnumbers))), (a25, .inl (g.2 0, 4, .inl mmany))]) := by
  refine Ct.of (by decide) (Nat.le_of_ble_eq_true rfl) ?_
  intro p e s m below meth c A ls FX hP hD hS hl
  obtain ⟨FC, hr, hlk, hKn, hA, hnm, hZ⟩ := id FX
  have FC : CallFix p m c cX12_asksWeek 4 s _ BIG RX12 := FC
  obtain ⟨hx, hb, hml, hown, hB⟩ := id FC
  have hl : lv_has ls 4 [(0, .ref h0), (1, .int p1), (2, .int p2)] := hl
  refine lv_iload_n hx hb dX12_asksWeek_0 rfl (lv_at hl 1 rfl) ?_
  refine call_S (As := [.int p1]) (rest := []) (wr := [(h0, .inr (12, [.int mthrown, .ref a1, .ref a2, .ref a3, .ref a4, .int mtaped, .ref a6, .int msize, .int mat, .int mfrom, .int mtoken, .int mvalue, .int mfaultKind, .int mfaultPlace, .ref a14, .ref a15, .int mgoal, .int mgoalDays, .int mgoalHearer, .ref a19, .ref a20, .int mleastOrder, .int mwordsMany, .ref a23, .ref a24, .ref a25, .ref a26, .ref a27, .ref a28])), (a1, .inl (g.2 0, 225, .inl mworld)), (a27, .inl (g.2 3, 240, .inr (.inl mnumbers))), (a25, .inl (g.2 0, 4, .inl mmany))]) FC hKn hZ (k_X12_isSlot l g p1) m_yX12_isSlot b_933 hP hD hS hA [] [0, 1, 2, 3] rfl (by decide) rfl (by decide) (by decide) rfl hl.1 rfl (Nat.le_of_ble_eq_true rfl) dX12_asksWeek_1 ⟨(Nat.le_of_ble_eq_true rfl), (Nat.le_of_ble_eq_true rfl)⟩ ⟨(Nat.le_of_ble_eq_true rfl), (Nat.le_of_ble_eq_true rfl)⟩ (fun u1 H locs q2 hP hD hS => ?_)
  obtain ⟨q2_0, q2_1, q2_2⟩ := q2
  have hP : va_P g.1 vwCl [(h0, .inr (12, [.int mthrown, .ref a1, .ref a2, .ref a3, .ref a4, .int mtaped, .ref a6, .int msize, .int mat, .int mfrom, .int mtoken, .int mvalue, .int mfaultKind, .int mfaultPlace, .ref a14, .ref a15, .int mgoal, .int mgoalDays, .int mgoalHearer, .ref a19, .ref a20, .int mleastOrder, .int mwordsMany, .ref a23, .ref a24, .ref a25, .ref a26, .ref a27, .ref a28])), (a1, .inl (g.2 0, 225, .inl mworld)), (a27, .inl (g.2 3, 240, .inr (.inl mnumbers))), (a25, .inl (g.2 0, 4, .inl mmany))] H := hP
  have hD : va_D A [(h0, .inr (12, [.int mthrown, .ref a1, .ref a2, .ref a3, .ref a4, .int mtaped, .ref a6, .int msize, .int mat, .int mfrom, .int mtoken, .int mvalue, .int mfaultKind, .int mfaultPlace, .ref a14, .ref a15, .int mgoal, .int mgoalDays, .int mgoalHearer, .ref a19, .ref a20, .int mleastOrder, .int mwordsMany, .ref a23, .ref a24, .ref a25, .ref a26, .ref a27, .ref a28])), (a1, .inl (g.2 0, 225, .inl mworld)), (a27, .inl (g.2 3, 240, .inr (.inl mnumbers))), (a25, .inl (g.2 0, 4, .inl mmany))] := hD
  refine W.eq (g2 := F0 m 4 ls [.int (u1.1 0)]) rfl ?_
  rcases (show (u1.1 0).toInt = 0 ∨ (u1.1 0).toInt = 1 by omega) with c3 | c3
  · skip
    refine lv_if_eq (tgt := 18) hx hb dX12_asksWeek_4 (by decide) (fun c4 => ?_) (fun c4 => ?_)
    · have c4 := k_eq (a := (u1.1 0).toInt) (b := 0) rfl (by decide) c4
      refine lv_bipush (v := -2) hx hb dX12_asksWeek_18 (by decide) ?_
      have kcm2 : (-2 : Int32).toInt = -2 := by decide
      exact rt_i FX ((fun k => match k with | 0 => (-2 : Int32) | _ => 0), (fun _ => fun _ => 0), (fun _ => fun _ => 0)) rfl ⟨(show -6 ≤ ((-2 : Int32)).toInt ∧ ((-2 : Int32)).toInt ≤ 0 by decide), (show ((-2 : Int32)).toInt = 0 → wkok mworld mnumbers mmany p1 from (fun h => absurd h (by decide))), (show ((-2 : Int32)).toInt = 0 → p2.toInt = 1 by omega)⟩ (hP.sub [0, 1, 2, 3] rfl) (hD.sub [0, 1, 2, 3] (by decide) rfl) hS (Nat.le_of_ble_eq_true rfl) (Nat.le_of_ble_eq_true rfl) dX12_asksWeek_20
    · have c4 := k_ne (a := (u1.1 0).toInt) (b := 0) rfl (by decide) c4
      exfalso; omega
  · have c3_r := q2_2 c3
    refine lv_if_eq (tgt := 18) hx hb dX12_asksWeek_4 (by decide) (fun c5 => ?_) (fun c5 => ?_)
    · have c5 := k_eq (a := (u1.1 0).toInt) (b := 0) rfl (by decide) c5
      exfalso; omega
    · have c5 := k_ne (a := (u1.1 0).toInt) (b := 0) rfl (by decide) c5
      refine lv_aload_n hx hb dX12_asksWeek_7 rfl (lv_at hl 0 rfl) ?_
      refine call_V (As := []) (rest := []) (wr := [(a27, .inl (g.2 3, 240, .inr (.inl mnumbers))), (a25, .inl (g.2 0, 4, .inl mmany))]) FC hKn hZ (k_X12_isDesk l g h0 a1 a2 a3 a4 a6 a14 a15 a19 a20 a23 a24 a25 a26 a27 a28 mthrown mtaped msize mat mfrom mtoken mvalue mfaultKind mfaultPlace mgoal mgoalDays mgoalHearer mleastOrder mwordsMany mworld (by omega) (by omega) (by omega) (by omega) (by omega) (by omega) (by omega) (by omega) i_mworld) m_yX12_isDesk b_805 (ci := 12) rfl rfl rfl hP hD hS hA [0, 1] [2, 3] rfl (by decide) rfl (by decide) (by decide) rfl hl.1 rfl (Nat.le_of_ble_eq_true rfl) dX12_asksWeek_8 ⟨(Nat.le_of_ble_eq_true rfl), (Nat.le_of_ble_eq_true rfl)⟩ ⟨(Nat.le_of_ble_eq_true rfl), (Nat.le_of_ble_eq_true rfl)⟩ (fun u6 H locs q7 hP hD hS => ?_)
      obtain ⟨q7_0, q7_1⟩ := q7
      have hP : va_P g.1 vwCl [(a27, .inl (g.2 3, 240, .inr (.inl mnumbers))), (a25, .inl (g.2 0, 4, .inl mmany)), (h0, .inr (12, [.int mthrown, .ref a1, .ref a2, .ref a3, .ref a4, .int mtaped, .ref a6, .int msize, .int mat, .int mfrom, .int mtoken, .int mvalue, .int mfaultKind, .int mfaultPlace, .ref a14, .ref a15, .int mgoal, .int mgoalDays, .int mgoalHearer, .ref a19, .ref a20, .int mleastOrder, .int mwordsMany, .ref a23, .ref a24, .ref a25, .ref a26, .ref a27, .ref a28])), (a1, .inl (g.2 0, 225, .inl mworld))] H := hP
      have hD : va_D A [(a27, .inl (g.2 3, 240, .inr (.inl mnumbers))), (a25, .inl (g.2 0, 4, .inl mmany)), (h0, .inr (12, [.int mthrown, .ref a1, .ref a2, .ref a3, .ref a4, .int mtaped, .ref a6, .int msize, .int mat, .int mfrom, .int mtoken, .int mvalue, .int mfaultKind, .int mfaultPlace, .ref a14, .ref a15, .int mgoal, .int mgoalDays, .int mgoalHearer, .ref a19, .ref a20, .int mleastOrder, .int mwordsMany, .ref a23, .ref a24, .ref a25, .ref a26, .ref a27, .ref a28])), (a1, .inl (g.2 0, 225, .inl mworld))] := hD
      refine W.eq (g2 := F0 m 11 ls [.int (u6.1 0)]) rfl ?_
      rcases (show (u6.1 0).toInt = 0 ∨ (u6.1 0).toInt = 1 by omega) with c8 | c8
      · skip
        refine lv_if_eq (tgt := 18) hx hb dX12_asksWeek_11 (by decide) (fun c9 => ?_) (fun c9 => ?_)
        · have c9 := k_eq (a := (u6.1 0).toInt) (b := 0) rfl (by decide) c9
          refine lv_bipush (v := -2) hx hb dX12_asksWeek_18 (by decide) ?_
          have kcm2 : (-2 : Int32).toInt = -2 := by decide
          exact rt_i FX ((fun k => match k with | 0 => (-2 : Int32) | _ => 0), (fun _ => fun _ => 0), (fun _ => fun _ => 0)) rfl ⟨(show -6 ≤ ((-2 : Int32)).toInt ∧ ((-2 : Int32)).toInt ≤ 0 by decide), (show ((-2 : Int32)).toInt = 0 → wkok mworld mnumbers mmany p1 from (fun h => absurd h (by decide))), (show ((-2 : Int32)).toInt = 0 → p2.toInt = 1 by omega)⟩ (hP.sub [2, 3, 0, 1] rfl) (hD.sub [2, 3, 0, 1] (by decide) rfl) hS (Nat.le_of_ble_eq_true rfl) (Nat.le_of_ble_eq_true rfl) dX12_asksWeek_20
        · have c9 := k_ne (a := (u6.1 0).toInt) (b := 0) rfl (by decide) c9
          exfalso; omega
      · have c8_r := q7_1 c8
        refine lv_if_eq (tgt := 18) hx hb dX12_asksWeek_11 (by decide) (fun c10 => ?_) (fun c10 => ?_)
        · have c10 := k_eq (a := (u6.1 0).toInt) (b := 0) rfl (by decide) c10
          exfalso; omega
        · have c10 := k_ne (a := (u6.1 0).toInt) (b := 0) rfl (by decide) c10
          refine lv_iload_n hx hb dX12_asksWeek_14 rfl (lv_at hl 2 rfl) ?_
          refine lv_if_ne (tgt := 21) hx hb dX12_asksWeek_15 (by decide) (fun c11 => ?_) (fun c11 => ?_)
          · have c11 := k_ne (a := p2.toInt) (b := 0) rfl (by decide) c11
            refine lv_aload_n hx hb dX12_asksWeek_21 rfl (lv_at hl 0 rfl) ?_
            refine g_get (C := RX12) (T := TX12) (N := 29) (ci := 12) (v := .ref a25) FC hKn hP i_X12 2 rfl rfl 25 (by decide) b_934 rfl dX12_asksWeek_22 ?_
            refine lv_iload_n hx hb dX12_asksWeek_25 rfl (lv_at hl 1 rfl) ?_
            refine va_iald hx hb hKn.1 hP 1 0 rfl rfl (vp_in_iff.mpr ⟨by omega, by omega⟩) dX12_asksWeek_26 ?_
            refine lv_topi (fun z12 e_z12 => ?_)
            have t_z12 : -1 ≤ z12.toInt ∧ z12.toInt ≤ 60 := by rw [e_z12]; exact i_mmany _ (clt (by omega) (by omega))
            have q_z12 : z12.toInt = (mmany p1.toNatClampNeg).toInt := by rw [e_z12]
            refine lv_iconst (v := -1) hx hb dX12_asksWeek_27 (by decide) ?_
            refine lv_icmp_ne (tgt := 34) hx hb dX12_asksWeek_28 (by decide) (fun c13 => ?_) (fun c13 => ?_)
            · have c13 := k_ne (a := z12.toInt) (b := -1) rfl (by decide) c13
              refine lv_aload_n hx hb dX12_asksWeek_34 rfl (lv_at hl 0 rfl) ?_
              refine g_get (C := RX12) (T := TX12) (N := 29) (ci := 12) (v := .ref a25) FC hKn hP i_X12 2 rfl rfl 25 (by decide) b_934 rfl dX12_asksWeek_35 ?_
              refine lv_iload_n hx hb dX12_asksWeek_38 rfl (lv_at hl 1 rfl) ?_
              refine va_iald hx hb hKn.1 hP 1 0 rfl rfl (vp_in_iff.mpr ⟨by omega, by omega⟩) dX12_asksWeek_39 ?_
              refine tp_i (v := z12) e_z12.symm ?_
              refine lv_aload_n hx hb dX12_asksWeek_40 rfl (lv_at hl 0 rfl) ?_
              refine g_get (C := RX12) (T := TX12) (N := 29) (ci := 12) (v := .ref a1) FC hKn hP i_X12 2 rfl rfl 1 (by decide) b_801 rfl dX12_asksWeek_41 ?_
              refine lv_iconst (v := 2) hx hb dX12_asksWeek_44 (by decide) ?_
              refine va_iald hx hb hKn.1 hP 3 0 rfl rfl (by unfold vp_in; decide) dX12_asksWeek_45 ?_
              have kc2 : (2 : Int32).toInt = 2 := by decide
              refine lv_topi (fun z14 e_z14 => ?_)
              have t_z14 : 0 ≤ z14.toInt ∧ z14.toInt ≤ 10 := by rw [e_z14]; exact wk_2 i_mworld.1
              have q_z14 : z14.toInt = (mworld 2).toInt := by rw [e_z14]; rfl
              refine lv_icmp_le (tgt := 52) hx hb dX12_asksWeek_46 (by decide) (fun c15 => ?_) (fun c15 => ?_)
              · have c15 := k_le (a := z12.toInt) (b := z14.toInt) rfl rfl c15
                refine lv_iconst (v := 0) hx hb dX12_asksWeek_52 (by decide) ?_
                refine lv_istore_n (lv' := [(3, .int 0), (0, .ref h0), (1, .int p1), (2, .int p2)]) hx hb dX12_asksWeek_53 rfl hl (by decide) rfl (fun ls hl => ?_)
                have lp96 : ∀ (n98 : Nat) (x94 : Int32) (H : Heap) (locs : List Loc) (ls : Array Slot), 0 ≤ x94.toInt ∧ x94.toInt ≤ 10 → (∀ j : Int32, 0 ≤ j.toInt → j.toInt < x94.toInt → ((nmF mnumbers p1 j).toInt = 8 ∨ (0 ≤ (nmF mnumbers p1 j).toInt ∧ (nmF mnumbers p1 j).toInt < (mworld 6).toInt))) → (10 - x94.toInt).toNat < n98 → va_P g.1 vwCl [(a27, .inl (g.2 3, 240, .inr (.inl mnumbers))), (a25, .inl (g.2 0, 4, .inl mmany)), (h0, .inr (12, [.int mthrown, .ref a1, .ref a2, .ref a3, .ref a4, .int mtaped, .ref a6, .int msize, .int mat, .int mfrom, .int mtoken, .int mvalue, .int mfaultKind, .int mfaultPlace, .ref a14, .ref a15, .int mgoal, .int mgoalDays, .int mgoalHearer, .ref a19, .ref a20, .int mleastOrder, .int mwordsMany, .ref a23, .ref a24, .ref a25, .ref a26, .ref a27, .ref a28])), (a1, .inl (g.2 0, 225, .inl mworld))] H → va_D A [(a27, .inl (g.2 3, 240, .inr (.inl mnumbers))), (a25, .inl (g.2 0, 4, .inl mmany)), (h0, .inr (12, [.int mthrown, .ref a1, .ref a2, .ref a3, .ref a4, .int mtaped, .ref a6, .int msize, .int mat, .int mfrom, .int mtoken, .int mvalue, .int mfaultKind, .int mfaultPlace, .ref a14, .ref a15, .int mgoal, .int mgoalDays, .int mgoalHearer, .ref a19, .ref a20, .int mleastOrder, .int mwordsMany, .ref a23, .ref a24, .ref a25, .ref a26, .ref a27, .ref a28])), (a1, .inl (g.2 0, 225, .inl mworld))] → va_S A s.heap H locs → lv_has ls 4 [(3, .int x94), (0, .ref h0), (1, .int p1), (2, .int p2)] → W p l e { frames := 3, cells := 0, slots := 0, locals := 69 } s m ([.ref h0, .int p1, .int p2].toArray) below meth c H locs 0 0 (MQ below (QX (S := (Nat → Int32) × (Nat → Nat → Int32) × (Nat → Nat → Int64)) (fun u => some (.int (u.1 0))) (fun u => (-6 ≤ (u.1 0).toInt ∧ (u.1 0).toInt ≤ 0) ∧ ((u.1 0).toInt = 0 → wkok mworld mnumbers mmany p1) ∧ ((u.1 0).toInt = 0 → p2.toInt = 1)) g (fun u => [(h0, .inr (12, [.int mthrown, .ref a1, .ref a2, .ref a3, .ref a4, .int mtaped, .ref a6, .int msize, .int mat, .int mfrom, .int mtoken, .int mvalue, .int mfaultKind, .int mfaultPlace, .ref a14, .ref a15, .int mgoal, .int mgoalDays, .int mgoalHearer, .ref a19, .ref a20, .int mleastOrder, .int mwordsMany, .ref a23, .ref a24, .ref a25, .ref a26, .ref a27, .ref a28])), (a1, .inl (g.2 0, 225, .inl mworld)), (a27, .inl (g.2 3, 240, .inr (.inl mnumbers))), (a25, .inl (g.2 0, 4, .inl mmany))]) A) ([.ref h0, .int p1, .int p2].toArray) s 0 0 A) (F0 m 54 ls []) := by
                  intro n98
                  induction n98 with
                  | zero =>
                    intro x94 H locs ls h_x94 hi95 hn99
                    exact absurd hn99 (Nat.not_lt_zero _)
                  | succ n98 ih97 =>
                    intro x94 H locs ls h_x94 hi95 hn99 hP hD hS hl
                    refine lv_iload_n hx hb dX12_asksWeek_54 rfl (lv_at hl 0 rfl) ?_
                    refine lv_aload_n hx hb dX12_asksWeek_55 rfl (lv_at hl 1 rfl) ?_
                    refine g_get (C := RX12) (T := TX12) (N := 29) (ci := 12) (v := .ref a25) FC hKn hP i_X12 2 rfl rfl 25 (by decide) b_934 rfl dX12_asksWeek_56 ?_
                    refine lv_iload_n hx hb dX12_asksWeek_59 rfl (lv_at hl 2 rfl) ?_
                    refine va_iald hx hb hKn.1 hP 1 0 rfl rfl (vp_in_iff.mpr ⟨by omega, by omega⟩) dX12_asksWeek_60 ?_
                    refine tp_i (v := z12) e_z12.symm ?_
                    refine lv_icmp_ge (tgt := 86) hx hb dX12_asksWeek_61 (by decide) (fun c100 => ?_) (fun c100 => ?_)
                    · have c100 := k_le (a := z12.toInt) (b := x94.toInt) rfl rfl c100
                      refine lv_iconst (v := 0) hx hb dX12_asksWeek_86 (by decide) ?_
                      have kc0 : (0 : Int32).toInt = 0 := by decide
                      exact rt_i FX ((fun k => match k with | 0 => (0 : Int32) | _ => 0), (fun _ => fun _ => 0), (fun _ => fun _ => 0)) rfl ⟨(show -6 ≤ ((0 : Int32)).toInt ∧ ((0 : Int32)).toInt ≤ 0 by decide), (show ((0 : Int32)).toInt = 0 → wkok mworld mnumbers mmany p1 from (fun _ => ⟨⟨⟨by omega, by omega⟩, by omega, by omega⟩, ⟨by omega, by omega⟩, fun j q1 q2 => hi95 j q1 (by omega)⟩)), (show ((0 : Int32)).toInt = 0 → p2.toInt = 1 by omega)⟩ (hP.sub [2, 3, 0, 1] rfl) (hD.sub [2, 3, 0, 1] (by decide) rfl) hS (Nat.le_of_ble_eq_true rfl) (Nat.le_of_ble_eq_true rfl) dX12_asksWeek_87
                    · have c100 := k_nle (a := z12.toInt) (b := x94.toInt) rfl rfl c100
                      refine lv_aload_n hx hb dX12_asksWeek_64 rfl (lv_at hl 1 rfl) ?_
                      refine lv_aload_n hx hb dX12_asksWeek_65 rfl (lv_at hl 1 rfl) ?_
                      refine lv_iload_n hx hb dX12_asksWeek_66 rfl (lv_at hl 2 rfl) ?_
                      refine lv_iload_n hx hb dX12_asksWeek_67 rfl (lv_at hl 0 rfl) ?_
                      refine call_V (As := [.int p1, .int x94]) (rest := [.ref h0]) (wr := [(a25, .inl (g.2 0, 4, .inl mmany)), (a1, .inl (g.2 0, 225, .inl mworld))]) FC hKn hZ (k_X12_numberAt l g h0 a1 a2 a3 a4 a6 a14 a15 a19 a20 a23 a24 a25 a26 a27 a28 mthrown mtaped msize mat mfrom mtoken mvalue mfaultKind mfaultPlace mgoal mgoalDays mgoalHearer mleastOrder mwordsMany mnumbers p1 x94 (by omega) (by omega) (by omega) (by omega) (by omega) (by omega) (by omega) (by omega) (by omega) (by omega)) m_yX12_numberAt b_930 (ci := 12) rfl rfl rfl hP hD hS hA [2, 0] [1, 3] rfl (by decide) rfl (by decide) (by decide) rfl hl.1 rfl (Nat.le_of_ble_eq_true rfl) dX12_asksWeek_68 ⟨(Nat.le_of_ble_eq_true rfl), (Nat.le_of_ble_eq_true rfl)⟩ ⟨(Nat.le_of_ble_eq_true rfl), (Nat.le_of_ble_eq_true rfl)⟩ (fun u101 H locs q102 hP hD hS => ?_)
                      have q102_0 : u101.2.2 9 0 = nmF mnumbers p1 x94 := q102
                      have hP : va_P g.1 vwCl [(a25, .inl (g.2 0, 4, .inl mmany)), (a1, .inl (g.2 0, 225, .inl mworld)), (h0, .inr (12, [.int mthrown, .ref a1, .ref a2, .ref a3, .ref a4, .int mtaped, .ref a6, .int msize, .int mat, .int mfrom, .int mtoken, .int mvalue, .int mfaultKind, .int mfaultPlace, .ref a14, .ref a15, .int mgoal, .int mgoalDays, .int mgoalHearer, .ref a19, .ref a20, .int mleastOrder, .int mwordsMany, .ref a23, .ref a24, .ref a25, .ref a26, .ref a27, .ref a28])), (a27, .inl (g.2 3, 240, .inr (.inl mnumbers)))] H := hP
                      have hD : va_D A [(a25, .inl (g.2 0, 4, .inl mmany)), (a1, .inl (g.2 0, 225, .inl mworld)), (h0, .inr (12, [.int mthrown, .ref a1, .ref a2, .ref a3, .ref a4, .int mtaped, .ref a6, .int msize, .int mat, .int mfrom, .int mtoken, .int mvalue, .int mfaultKind, .int mfaultPlace, .ref a14, .ref a15, .int mgoal, .int mgoalDays, .int mgoalHearer, .ref a19, .ref a20, .int mleastOrder, .int mwordsMany, .ref a23, .ref a24, .ref a25, .ref a26, .ref a27, .ref a28])), (a27, .inl (g.2 3, 240, .inr (.inl mnumbers)))] := hD
                      refine W.eq (g2 := F0 m 71 ls [.long (u101.2.2 9 0), .ref h0]) rfl ?_
                      refine tp_l (v := nmF mnumbers p1 x94) q102_0 ?_
                      refine call_V (As := [.long (nmF mnumbers p1 x94)]) (rest := []) (wr := [(a25, .inl (g.2 0, 4, .inl mmany)), (a27, .inl (g.2 3, 240, .inr (.inl mnumbers)))]) FC hKn hZ (k_X12_isTold l g h0 a1 a2 a3 a4 a6 a14 a15 a19 a20 a23 a24 a25 a26 a27 a28 mthrown mtaped msize mat mfrom mtoken mvalue mfaultKind mfaultPlace mgoal mgoalDays mgoalHearer mleastOrder mwordsMany mworld (nmF mnumbers p1 x94) (by omega) (by omega) (by omega) (by omega) (by omega) (by omega) (by omega) (by omega) i_mworld) m_yX12_isTold b_893 (ci := 12) rfl rfl rfl hP hD hS hA [2, 1] [0, 3] rfl (by decide) rfl (by decide) (by decide) rfl hl.1 rfl (Nat.le_of_ble_eq_true rfl) dX12_asksWeek_71 ⟨(Nat.le_of_ble_eq_true rfl), (Nat.le_of_ble_eq_true rfl)⟩ ⟨(Nat.le_of_ble_eq_true rfl), (Nat.le_of_ble_eq_true rfl)⟩ (fun u103 H locs q104 hP hD hS => ?_)
                      obtain ⟨q104_0, q104_1⟩ := q104
                      have hP : va_P g.1 vwCl [(a25, .inl (g.2 0, 4, .inl mmany)), (a27, .inl (g.2 3, 240, .inr (.inl mnumbers))), (h0, .inr (12, [.int mthrown, .ref a1, .ref a2, .ref a3, .ref a4, .int mtaped, .ref a6, .int msize, .int mat, .int mfrom, .int mtoken, .int mvalue, .int mfaultKind, .int mfaultPlace, .ref a14, .ref a15, .int mgoal, .int mgoalDays, .int mgoalHearer, .ref a19, .ref a20, .int mleastOrder, .int mwordsMany, .ref a23, .ref a24, .ref a25, .ref a26, .ref a27, .ref a28])), (a1, .inl (g.2 0, 225, .inl mworld))] H := hP
                      have hD : va_D A [(a25, .inl (g.2 0, 4, .inl mmany)), (a27, .inl (g.2 3, 240, .inr (.inl mnumbers))), (h0, .inr (12, [.int mthrown, .ref a1, .ref a2, .ref a3, .ref a4, .int mtaped, .ref a6, .int msize, .int mat, .int mfrom, .int mtoken, .int mvalue, .int mfaultKind, .int mfaultPlace, .ref a14, .ref a15, .int mgoal, .int mgoalDays, .int mgoalHearer, .ref a19, .ref a20, .int mleastOrder, .int mwordsMany, .ref a23, .ref a24, .ref a25, .ref a26, .ref a27, .ref a28])), (a1, .inl (g.2 0, 225, .inl mworld))] := hD
                      refine W.eq (g2 := F0 m 74 ls [.int (u103.1 0)]) rfl ?_
                      rcases (show (u103.1 0).toInt = 0 ∨ (u103.1 0).toInt = 1 by omega) with c105 | c105
                      · skip
                        refine lv_if_ne (tgt := 80) hx hb dX12_asksWeek_74 (by decide) (fun c106 => ?_) (fun c106 => ?_)
                        · have c106 := k_ne (a := (u103.1 0).toInt) (b := 0) rfl (by decide) c106
                          exfalso; omega
                        · have c106 := k_eq (a := (u103.1 0).toInt) (b := 0) rfl (by decide) c106
                          refine lv_bipush (v := -2) hx hb dX12_asksWeek_77 (by decide) ?_
                          have kcm2 : (-2 : Int32).toInt = -2 := by decide
                          exact rt_i FX ((fun k => match k with | 0 => (-2 : Int32) | _ => 0), (fun _ => fun _ => 0), (fun _ => fun _ => 0)) rfl ⟨(show -6 ≤ ((-2 : Int32)).toInt ∧ ((-2 : Int32)).toInt ≤ 0 by decide), (show ((-2 : Int32)).toInt = 0 → wkok mworld mnumbers mmany p1 from (fun h => absurd h (by decide))), (show ((-2 : Int32)).toInt = 0 → p2.toInt = 1 by omega)⟩ (hP.sub [2, 3, 1, 0] rfl) (hD.sub [2, 3, 1, 0] (by decide) rfl) hS (Nat.le_of_ble_eq_true rfl) (Nat.le_of_ble_eq_true rfl) dX12_asksWeek_79
                      · have c105_r := q104_1 c105
                        refine lv_if_ne (tgt := 80) hx hb dX12_asksWeek_74 (by decide) (fun c107 => ?_) (fun c107 => ?_)
                        · have c107 := k_ne (a := (u103.1 0).toInt) (b := 0) rfl (by decide) c107
                          obtain ⟨z108, e_z108⟩ : ∃ y : Int32, y = x94 + 1 := ⟨_, rfl⟩
                          have t_z108 : z108.toInt = x94.toInt + 1 := by rw [e_z108]; exact addk (by decide) (by omega) (by omega)
                          refine lv_iinc (v := z108) (lv' := [(3, .int z108), (0, .ref h0), (1, .int p1), (2, .int p2)]) hx hb dX12_asksWeek_80 hl (k := 0) rfl (by rw [e_z108]; rfl) (by decide) rfl (fun ls hl => ?_)
                          refine lv_goto (tgt := 54) hx hb dX12_asksWeek_83 (by decide) ?_
                          exact ih97 z108 _ _ ls (by omega) (fun j q1 q2 => by by_cases q3 : j.toInt < x94.toInt; (exact hi95 j q1 q3); (obtain rfl : j = x94 := Int32.toInt_inj.mp (by omega)); exact c105_r.1) (by omega) (hP.sub [1, 0, 2, 3] rfl) (hD.sub [1, 0, 2, 3] (by decide) rfl) hS (lv_sub hl [0, 1, 2, 3] rfl)
                        · have c107 := k_eq (a := (u103.1 0).toInt) (b := 0) rfl (by decide) c107
                          exfalso; omega
                have kc0 : (0 : Int32).toInt = 0 := by decide
                exact lp96 _ (0 : Int32) _ _ ls (by decide) (fun j q1 q2 => by exfalso; rw [show (0 : Int32).toInt = 0 by decide] at q2; omega) (Nat.lt_succ_self _) hP hD hS (lv_sub hl [0, 1, 2, 3] rfl)
              · have c15 := k_nle (a := z12.toInt) (b := z14.toInt) rfl rfl c15
                refine lv_bipush (v := -2) hx hb dX12_asksWeek_49 (by decide) ?_
                have kcm2 : (-2 : Int32).toInt = -2 := by decide
                exact rt_i FX ((fun k => match k with | 0 => (-2 : Int32) | _ => 0), (fun _ => fun _ => 0), (fun _ => fun _ => 0)) rfl ⟨(show -6 ≤ ((-2 : Int32)).toInt ∧ ((-2 : Int32)).toInt ≤ 0 by decide), (show ((-2 : Int32)).toInt = 0 → wkok mworld mnumbers mmany p1 from (fun h => absurd h (by decide))), (show ((-2 : Int32)).toInt = 0 → p2.toInt = 1 by omega)⟩ (hP.sub [2, 3, 0, 1] rfl) (hD.sub [2, 3, 0, 1] (by decide) rfl) hS (Nat.le_of_ble_eq_true rfl) (Nat.le_of_ble_eq_true rfl) dX12_asksWeek_51
            · have c13 := k_eq (a := z12.toInt) (b := -1) rfl (by decide) c13
              refine lv_bipush (v := -6) hx hb dX12_asksWeek_31 (by decide) ?_
              have kcm6 : (-6 : Int32).toInt = -6 := by decide
              exact rt_i FX ((fun k => match k with | 0 => (-6 : Int32) | _ => 0), (fun _ => fun _ => 0), (fun _ => fun _ => 0)) rfl ⟨(show -6 ≤ ((-6 : Int32)).toInt ∧ ((-6 : Int32)).toInt ≤ 0 by decide), (show ((-6 : Int32)).toInt = 0 → wkok mworld mnumbers mmany p1 from (fun h => absurd h (by decide))), (show ((-6 : Int32)).toInt = 0 → p2.toInt = 1 by omega)⟩ (hP.sub [2, 3, 0, 1] rfl) (hD.sub [2, 3, 0, 1] (by decide) rfl) hS (Nat.le_of_ble_eq_true rfl) (Nat.le_of_ble_eq_true rfl) dX12_asksWeek_33
          · have c11 := k_eq (a := p2.toInt) (b := 0) rfl (by decide) c11
            refine lv_bipush (v := -2) hx hb dX12_asksWeek_18 (by decide) ?_
            have kcm2 : (-2 : Int32).toInt = -2 := by decide
            exact rt_i FX ((fun k => match k with | 0 => (-2 : Int32) | _ => 0), (fun _ => fun _ => 0), (fun _ => fun _ => 0)) rfl ⟨(show -6 ≤ ((-2 : Int32)).toInt ∧ ((-2 : Int32)).toInt ≤ 0 by decide), (show ((-2 : Int32)).toInt = 0 → wkok mworld mnumbers mmany p1 from (fun h => absurd h (by decide))), (show ((-2 : Int32)).toInt = 0 → p2.toInt = 1 by omega)⟩ (hP.sub [2, 3, 0, 1] rfl) (hD.sub [2, 3, 0, 1] (by decide) rfl) hS (Nat.le_of_ble_eq_true rfl) (Nat.le_of_ble_eq_true rfl) dX12_asksWeek_20
