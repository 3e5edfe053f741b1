set_option maxRecDepth 100000 in
set_option maxHeartbeats 4000000 in
theorem k_X12_see (l : Launch) (g : GG) (h0 : Nat) (a1 : Nat) (a2 : Nat) (a3 : Nat) (a4 : Nat) (a6 : Nat) (a14 : Nat) (a15 : Nat) (a19 : Nat) (a20 : Nat) (a23 : Nat) (a24 : Nat) (a25 : Nat) (a26 : Nat) (a27 : Nat) (a28 : Nat) (mthrown : Int32) (mtaped : Int32) (msize : Int32) (mat : Int32) (mfrom : Int32) (mtoken : Int32) (mvalue : Int32) (mfaultKind : Int32) (mfaultPlace : Int32) (mgoal : Int32) (mgoalDays : Int32) (mgoalHearer : Int32) (mleastOrder : Int32) (mwordsMany : Int32) (mtape : Nat → Int32) (p1 : Int32) (i_mtaped : 0 ≤ mtaped.toInt ∧ mtaped.toInt ≤ 900) (i_msize : 0 ≤ msize.toInt ∧ msize.toInt ≤ 900) (i_mat : 0 ≤ mat.toInt ∧ mat.toInt ≤ 900) (i_mfrom : 0 ≤ mfrom.toInt ∧ mfrom.toInt ≤ 900) (i_mtoken : 0 ≤ mtoken.toInt ∧ mtoken.toInt ≤ 4) (i_mvalue : 0 ≤ mvalue.toInt ∧ mvalue.toInt ≤ 99999) (i_mfaultKind : 0 ≤ mfaultKind.toInt ∧ mfaultKind.toInt ≤ 3) (i_mgoalHearer : 0 ≤ mgoalHearer.toInt ∧ mgoalHearer.toInt ≤ 3) (i_mwordsMany : 0 ≤ mwordsMany.toInt ∧ mwordsMany.toInt ≤ 10) (i_p1 : 0 ≤ p1.toInt ∧ p1.toInt ≤ 900) : Ct l g yX12_see cX12_see 2 (some .int) { frames := 0, cells := 0, slots := 0, locals := 0 } [.ref h0, .int p1] [(h0, .inr (12, [.int mthrown, .ref a1, .ref a2, .ref a3, .ref a4, .int mtaped, .ref a6, .int msize, .int mat, .int mfrom, .int mtoken, .int mvalue, .int mfaultKind, .int mfaultPlace, .ref a14, .ref a15, .int mgoal, .int mgoalDays, .int mgoalHearer, .ref a19, .ref a20, .int mleastOrder, .int mwordsMany, .ref a23, .ref a24, .ref a25, .ref a26, .ref a27, .ref a28])), (a4, .inl (g.2 1, 900, .inl mtape))] (S := (Nat → Int32) × (Nat → Nat → Int32) × (Nat → Nat → Int64)) (fun u => some (.int (u.1 0))) (fun u => (-1 ≤ (u.1 0).toInt ∧ (u.1 0).toInt ≤ 255) ∧ (u.1 0 = seF mtape msize p1) ∧ ((u.1 0).toInt ≠ -1 → p1.toInt < msize.toInt)) (fun u => [(h0, .inr (12, [.int mthrown, .ref a1, .ref a2, .ref a3, .ref a4, .int mtaped, .ref a6, .int msize, .int mat, .int mfrom, .int mtoken, .int mvalue, .int mfaultKind, .int mfaultPlace, .ref a14, .ref a15, .int mgoal, .int mgoalDays, .int mgoalHearer, .ref a19, .ref a20, .int mleastOrder, .int mwordsMany, .ref a23, .ref a24, .ref a25, .ref a26, .ref a27, .ref a28])), (a4, .inl (g.2 1, 900, .inl mtape))]) := by
  refine Ct.of (by decide) (Nat.le_of_ble_eq_true rfl) ?_
  intro p e s m below meth c A ls FX hP hD hS hl
  obtain ⟨FC, hr, hlk, hKn, hA, hnm, hZ⟩ := id FX
  have FC : CallFix p m c cX12_see 2 s _ BIG RX12 := FC
  obtain ⟨hx, hb, hml, hown, hB⟩ := id FC
  have hl : lv_has ls 2 [(0, .ref h0), (1, .int p1)] := hl
  refine lv_iload_n hx hb dX12_see_0 rfl (lv_at hl 1 rfl) ?_
  refine lv_aload_n hx hb dX12_see_1 rfl (lv_at hl 0 rfl) ?_
  refine g_get (C := RX12) (T := TX12) (N := 29) (ci := 12) (v := .int msize) FC hKn hP i_X12 0 rfl rfl 7 (by decide) b_1106 rfl dX12_see_2 ?_
  refine lv_icmp_ge (tgt := 21) hx hb dX12_see_5 (by decide) (fun c1 => ?_) (fun c1 => ?_)
  · have c1 := k_le (a := msize.toInt) (b := p1.toInt) rfl rfl c1
    refine lv_iconst (v := -1) hx hb dX12_see_21 (by decide) ?_
    have kcm1 : (-1 : Int32).toInt = -1 := by decide
    exact rt_i FX ((fun k => match k with | 0 => (-1 : Int32) | _ => 0), (fun _ => fun _ => 0), (fun _ => fun _ => 0)) rfl ⟨(show -1 ≤ ((-1 : Int32)).toInt ∧ ((-1 : Int32)).toInt ≤ 255 by decide), (show (-1 : Int32) = seF mtape msize p1 from (se_2 (by omega)).symm), (show ((-1 : Int32)).toInt ≠ -1 → p1.toInt < msize.toInt by omega)⟩ (hP.sub [0, 1] rfl) (hD.sub [0, 1] (by decide) rfl) hS (Nat.le_of_ble_eq_true rfl) (Nat.le_of_ble_eq_true rfl) dX12_see_22
  · have c1 := k_nle (a := msize.toInt) (b := p1.toInt) rfl rfl c1
    refine lv_aload_n hx hb dX12_see_8 rfl (lv_at hl 0 rfl) ?_
    refine g_get (C := RX12) (T := TX12) (N := 29) (ci := 12) (v := .ref a4) FC hKn hP i_X12 0 rfl rfl 4 (by decide) b_1105 rfl dX12_see_9 ?_
    refine lv_iload_n hx hb dX12_see_12 rfl (lv_at hl 1 rfl) ?_
    refine va_bald hx hb hKn.1 hP 1 1 rfl rfl (vp_in_iff.mpr ⟨by omega, by omega⟩) dX12_see_13 ?_
    refine lv_topi (fun z2 e_z2 => ?_)
    refine lv_sipush (v := 255) hx hb dX12_see_14 (by decide) ?_
    refine lv_iand hx hb dX12_see_17 ?_
    have kc255 : (255 : Int32).toInt = 255 := by decide
    refine lv_topi (fun z3 e_z3 => ?_)
    have t_z3 : 0 ≤ z3.toInt ∧ z3.toInt ≤ 255 := by rw [e_z3]; exact and_r (by omega) (by omega)
    refine lv_goto (tgt := 22) hx hb dX12_see_18 (by decide) ?_
    exact rt_i FX ((fun k => match k with | 0 => z3 | _ => 0), (fun _ => fun _ => 0), (fun _ => fun _ => 0)) rfl ⟨(show -1 ≤ z3.toInt ∧ z3.toInt ≤ 255 by omega), (show z3 = seF mtape msize p1 from (show _ = _ by rw [se_1 (by omega)]; subst_vars; rfl)), (show (z3).toInt ≠ -1 → p1.toInt < msize.toInt by omega)⟩ (hP.sub [0, 1] rfl) (hD.sub [0, 1] (by decide) rfl) hS (Nat.le_of_ble_eq_true rfl) (Nat.le_of_ble_eq_true rfl) dX12_see_22
set_option maxRecDepth 100000 in
set_option maxHeartbeats 4000000 in
theorem k_X12_advance (l : Launch) (g : GG) (h0 : Nat) (a1 : Nat) (a2 : Nat) (a3 : Nat) (a4 : Nat) (a6 : Nat) (a14 : Nat) (a15 : Nat) (a19 : Nat) (a20 : Nat) (a23 : Nat) (a24 : Nat) (a25 : Nat) (a26 : Nat) (a27 : Nat) (a28 : Nat) (mthrown : Int32) (mtaped : Int32) (msize : Int32) (mat : Int32) (mfrom : Int32) (mtoken : Int32) (mvalue : Int32) (mfaultKind : Int32) (mfaultPlace : Int32) (mgoal : Int32) (mgoalDays : Int32) (mgoalHearer : Int32) (mleastOrder : Int32) (mwordsMany : Int32) (mtape : Nat → Int32) (i_mtaped : 0 ≤ mtaped.toInt ∧ mtaped.toInt ≤ 900) (i_msize : 0 ≤ msize.toInt ∧ msize.toInt ≤ 900) (i_mat : 0 ≤ mat.toInt ∧ mat.toInt ≤ 900) (i_mfrom : 0 ≤ mfrom.toInt ∧ mfrom.toInt ≤ 900) (i_mtoken : 0 ≤ mtoken.toInt ∧ mtoken.toInt ≤ 4) (i_mvalue : 0 ≤ mvalue.toInt ∧ mvalue.toInt ≤ 99999) (i_mfaultKind : 0 ≤ mfaultKind.toInt ∧ mfaultKind.toInt ≤ 3) (i_mgoalHearer : 0 ≤ mgoalHearer.toInt ∧ mgoalHearer.toInt ≤ 3) (i_mwordsMany : 0 ≤ mwordsMany.toInt ∧ mwordsMany.toInt ≤ 10) : Ct l g yX12_advance cX12_advance 2 none { frames := 1, cells := 0, slots := 0, locals := 25 } [.ref h0] [(h0, .inr (12, [.int mthrown, .ref a1, .ref a2, .ref a3, .ref a4, .int mtaped, .ref a6, .int msize, .int mat, .int mfrom, .int mtoken, .int mvalue, .int mfaultKind, .int mfaultPlace, .ref a14, .ref a15, .int mgoal, .int mgoalDays, .int mgoalHearer, .ref a19, .ref a20, .int mleastOrder, .int mwordsMany, .ref a23, .ref a24, .ref a25, .ref a26, .ref a27, .ref a28])), (a4, .inl (g.2 1, 900, .inl mtape))] (S := (Nat → Int32) × (Nat → Nat → Int32) × (Nat → Nat → Int64)) (fun _ => none) (fun u => (0 ≤ (u.1 1).toInt ∧ (u.1 1).toInt ≤ 900) ∧ (0 ≤ (u.1 2).toInt ∧ (u.1 2).toInt ≤ 900) ∧ (0 ≤ (u.1 3).toInt ∧ (u.1 3).toInt ≤ 4) ∧ (0 ≤ (u.1 4).toInt ∧ (u.1 4).toInt ≤ 99999) ∧ (5 * mat.toInt - mtoken.toInt ≤ 5 * (u.1 1).toInt - (u.1 3).toInt) ∧ (1 ≤ mtoken.toInt → 5 * mat.toInt - mtoken.toInt < 5 * (u.1 1).toInt - (u.1 3).toInt)) (fun u => [(h0, .inr (12, [.int mthrown, .ref a1, .ref a2, .ref a3, .ref a4, .int mtaped, .ref a6, .int msize, .int (u.1 1), .int (u.1 2), .int (u.1 3), .int (u.1 4), .int mfaultKind, .int mfaultPlace, .ref a14, .ref a15, .int mgoal, .int mgoalDays, .int mgoalHearer, .ref a19, .ref a20, .int mleastOrder, .int mwordsMany, .ref a23, .ref a24, .ref a25, .ref a26, .ref a27, .ref a28])), (a4, .inl (g.2 1, 900, .inl mtape))]) := by
  refine Ct.of (by decide) (Nat.le_of_ble_eq_true rfl) ?_
  intro p e s m below meth c A ls FX hP hD hS hl
  obtain ⟨FC, hr, hlk, hKn, hA, hnm, hZ⟩ := id FX
  have FC : CallFix p m c cX12_advance 2 s _ BIG RX12 := FC
  obtain ⟨hx, hb, hml, hown, hB⟩ := id FC
  have hl : lv_has ls 2 [(0, .ref h0)] := hl
  have lp238 : ∀ (n240 : Nat) (x236 : Int32) (H : Heap) (locs : List Loc) (ls : Array Slot), 0 ≤ x236.toInt ∧ x236.toInt ≤ 900 → mat.toInt ≤ x236.toInt → (900 - x236.toInt).toNat < n240 → va_P g.1 vwCl [(h0, .inr (12, [.int mthrown, .ref a1, .ref a2, .ref a3, .ref a4, .int mtaped, .ref a6, .int msize, .int x236, .int mfrom, .int mtoken, .int mvalue, .int mfaultKind, .int mfaultPlace, .ref a14, .ref a15, .int mgoal, .int mgoalDays, .int mgoalHearer, .ref a19, .ref a20, .int mleastOrder, .int mwordsMany, .ref a23, .ref a24, .ref a25, .ref a26, .ref a27, .ref a28])), (a4, .inl (g.2 1, 900, .inl mtape))] H → va_D A [(h0, .inr (12, [.int mthrown, .ref a1, .ref a2, .ref a3, .ref a4, .int mtaped, .ref a6, .int msize, .int x236, .int mfrom, .int mtoken, .int mvalue, .int mfaultKind, .int mfaultPlace, .ref a14, .ref a15, .int mgoal, .int mgoalDays, .int mgoalHearer, .ref a19, .ref a20, .int mleastOrder, .int mwordsMany, .ref a23, .ref a24, .ref a25, .ref a26, .ref a27, .ref a28])), (a4, .inl (g.2 1, 900, .inl mtape))] → va_S A s.heap H locs → lv_has ls 2 [(0, .ref h0)] → W p l e { frames := 1, cells := 0, slots := 0, locals := 25 } s m ([.ref h0].toArray) below meth c H locs 0 0 (MQ below (QX (S := (Nat → Int32) × (Nat → Nat → Int32) × (Nat → Nat → Int64)) (fun _ => none) (fun u => (0 ≤ (u.1 1).toInt ∧ (u.1 1).toInt ≤ 900) ∧ (0 ≤ (u.1 2).toInt ∧ (u.1 2).toInt ≤ 900) ∧ (0 ≤ (u.1 3).toInt ∧ (u.1 3).toInt ≤ 4) ∧ (0 ≤ (u.1 4).toInt ∧ (u.1 4).toInt ≤ 99999) ∧ (5 * mat.toInt - mtoken.toInt ≤ 5 * (u.1 1).toInt - (u.1 3).toInt) ∧ (1 ≤ mtoken.toInt → 5 * mat.toInt - mtoken.toInt < 5 * (u.1 1).toInt - (u.1 3).toInt)) g (fun u => [(h0, .inr (12, [.int mthrown, .ref a1, .ref a2, .ref a3, .ref a4, .int mtaped, .ref a6, .int msize, .int (u.1 1), .int (u.1 2), .int (u.1 3), .int (u.1 4), .int mfaultKind, .int mfaultPlace, .ref a14, .ref a15, .int mgoal, .int mgoalDays, .int mgoalHearer, .ref a19, .ref a20, .int mleastOrder, .int mwordsMany, .ref a23, .ref a24, .ref a25, .ref a26, .ref a27, .ref a28])), (a4, .inl (g.2 1, 900, .inl mtape))]) A) ([.ref h0].toArray) s 0 0 A) (F0 m 0 ls []) := by
    intro n240
    induction n240 with
    | zero =>
      intro x236 H locs ls h_x236 hi237 hn241
      exact absurd hn241 (Nat.not_lt_zero _)
    | succ n240 ih239 =>
      intro x236 H locs ls h_x236 hi237 hn241 hP hD hS hl
      refine lv_aload_n hx hb dX12_advance_0 rfl (lv_at hl 0 rfl) ?_
      refine lv_aload_n hx hb dX12_advance_1 rfl (lv_at hl 0 rfl) ?_
      refine g_get (C := RX12) (T := TX12) (N := 29) (ci := 12) (v := .int x236) FC hKn hP i_X12 0 rfl rfl 8 (by decide) b_1107 rfl dX12_advance_2 ?_
      refine call_V (As := [.int x236]) (rest := []) (wr := []) FC hKn hZ (k_X12_see l g h0 a1 a2 a3 a4 a6 a14 a15 a19 a20 a23 a24 a25 a26 a27 a28 mthrown mtaped msize x236 mfrom mtoken mvalue mfaultKind mfaultPlace mgoal mgoalDays mgoalHearer mleastOrder mwordsMany mtape x236 (by omega) (by omega) (by omega) (by omega) (by omega) (by omega) (by omega) (by omega) (by omega) (by omega)) m_yX12_see b_1108 (ci := 12) rfl rfl rfl hP hD hS hA [0, 1] [] rfl (by decide) rfl (by decide) (by decide) rfl hl.1 rfl (Nat.le_of_ble_eq_true rfl) dX12_advance_5 ⟨(Nat.le_of_ble_eq_true rfl), (Nat.le_of_ble_eq_true rfl)⟩ ⟨(Nat.le_of_ble_eq_true rfl), (Nat.le_of_ble_eq_true rfl)⟩ (fun u242 H locs q243 hP hD hS => ?_)
      obtain ⟨q243_0, q243_1, q243_2⟩ := q243
      have hP : va_P g.1 vwCl [(h0, .inr (12, [.int mthrown, .ref a1, .ref a2, .ref a3, .ref a4, .int mtaped, .ref a6, .int msize, .int x236, .int mfrom, .int mtoken, .int mvalue, .int mfaultKind, .int mfaultPlace, .ref a14, .ref a15, .int mgoal, .int mgoalDays, .int mgoalHearer, .ref a19, .ref a20, .int mleastOrder, .int mwordsMany, .ref a23, .ref a24, .ref a25, .ref a26, .ref a27, .ref a28])), (a4, .inl (g.2 1, 900, .inl mtape))] H := hP
      have hD : va_D A [(h0, .inr (12, [.int mthrown, .ref a1, .ref a2, .ref a3, .ref a4, .int mtaped, .ref a6, .int msize, .int x236, .int mfrom, .int mtoken, .int mvalue, .int mfaultKind, .int mfaultPlace, .ref a14, .ref a15, .int mgoal, .int mgoalDays, .int mgoalHearer, .ref a19, .ref a20, .int mleastOrder, .int mwordsMany, .ref a23, .ref a24, .ref a25, .ref a26, .ref a27, .ref a28])), (a4, .inl (g.2 1, 900, .inl mtape))] := hD
      refine W.eq (g2 := F0 m 8 ls [.int (u242.1 0)]) rfl ?_
      rw [q243_1] at q243_0
      rw [q243_1] at q243_2
      refine tp_i (v := seF mtape msize x236) q243_1 ?_
      refine lv_bipush (v := 32) hx hb dX12_advance_8 (by decide) ?_
      refine lv_icmp_eq (tgt := 26) hx hb dX12_advance_10 (by decide) (fun c244 => ?_) (fun c244 => ?_)
      · have c244 := k_eq (a := (seF mtape msize x236).toInt) (b := 32) rfl (by decide) c244
        refine lv_aload_n hx hb dX12_advance_26 rfl (lv_at hl 0 rfl) ?_
        refine lv_dup hx hb dX12_advance_27 rfl ?_
        refine g_get (C := RX12) (T := TX12) (N := 29) (ci := 12) (v := .int x236) FC hKn hP i_X12 0 rfl rfl 8 (by decide) b_1107 rfl dX12_advance_28 ?_
        refine lv_iconst (v := 1) hx hb dX12_advance_31 (by decide) ?_
        refine lv_iadd hx hb dX12_advance_32 ?_
        have kc1 : (1 : Int32).toInt = 1 := by decide
        refine lv_topi (fun z245 e_z245 => ?_)
        have t_z245 : z245.toInt = x236.toInt + ((1 : Int32)).toInt := by rw [e_z245]; exact fb_addI (by omega) (by omega)
        refine g_put (C := RX12) (T := TX12) (N := 29) (ci := 12) (v := .int z245) FC hKn hP hD hS i_X12 tyX12 tyX12_ok nmX12 0 rfl rfl 8 (by decide) b_1107 rfl rfl rfl (Nat.le_of_ble_eq_true rfl) dX12_advance_33 (fun H locs hP hD hS => ?_)
        have hP : va_P g.1 vwCl [(h0, .inr (12, [.int mthrown, .ref a1, .ref a2, .ref a3, .ref a4, .int mtaped, .ref a6, .int msize, .int z245, .int mfrom, .int mtoken, .int mvalue, .int mfaultKind, .int mfaultPlace, .ref a14, .ref a15, .int mgoal, .int mgoalDays, .int mgoalHearer, .ref a19, .ref a20, .int mleastOrder, .int mwordsMany, .ref a23, .ref a24, .ref a25, .ref a26, .ref a27, .ref a28])), (a4, .inl (g.2 1, 900, .inl mtape))] H := hP
        have hD : va_D A [(h0, .inr (12, [.int mthrown, .ref a1, .ref a2, .ref a3, .ref a4, .int mtaped, .ref a6, .int msize, .int z245, .int mfrom, .int mtoken, .int mvalue, .int mfaultKind, .int mfaultPlace, .ref a14, .ref a15, .int mgoal, .int mgoalDays, .int mgoalHearer, .ref a19, .ref a20, .int mleastOrder, .int mwordsMany, .ref a23, .ref a24, .ref a25, .ref a26, .ref a27, .ref a28])), (a4, .inl (g.2 1, 900, .inl mtape))] := hD
        refine lv_goto (tgt := 0) hx hb dX12_advance_36 (by decide) ?_
        exact ih239 z245 _ _ ls (by omega) (by omega) (by omega) hP hD hS (lv_sub hl [0] rfl)
      · have c244 := k_ne (a := (seF mtape msize x236).toInt) (b := 32) rfl (by decide) c244
        refine lv_aload_n hx hb dX12_advance_13 rfl (lv_at hl 0 rfl) ?_
        refine lv_aload_n hx hb dX12_advance_14 rfl (lv_at hl 0 rfl) ?_
        refine g_get (C := RX12) (T := TX12) (N := 29) (ci := 12) (v := .int x236) FC hKn hP i_X12 0 rfl rfl 8 (by decide) b_1107 rfl dX12_advance_15 ?_
        refine call_V (As := [.int x236]) (rest := []) (wr := []) FC hKn hZ (k_X12_see l g h0 a1 a2 a3 a4 a6 a14 a15 a19 a20 a23 a24 a25 a26 a27 a28 mthrown mtaped msize x236 mfrom mtoken mvalue mfaultKind mfaultPlace mgoal mgoalDays mgoalHearer mleastOrder mwordsMany mtape x236 (by omega) (by omega) (by omega) (by omega) (by omega) (by omega) (by omega) (by omega) (by omega) (by omega)) m_yX12_see b_1108 (ci := 12) rfl rfl rfl hP hD hS hA [0, 1] [] rfl (by decide) rfl (by decide) (by decide) rfl hl.1 rfl (Nat.le_of_ble_eq_true rfl) dX12_advance_18 ⟨(Nat.le_of_ble_eq_true rfl), (Nat.le_of_ble_eq_true rfl)⟩ ⟨(Nat.le_of_ble_eq_true rfl), (Nat.le_of_ble_eq_true rfl)⟩ (fun u246 H locs q247 hP hD hS => ?_)
        obtain ⟨q247_0, q247_1, q247_2⟩ := q247
        have hP : va_P g.1 vwCl [(h0, .inr (12, [.int mthrown, .ref a1, .ref a2, .ref a3, .ref a4, .int mtaped, .ref a6, .int msize, .int x236, .int mfrom, .int mtoken, .int mvalue, .int mfaultKind, .int mfaultPlace, .ref a14, .ref a15, .int mgoal, .int mgoalDays, .int mgoalHearer, .ref a19, .ref a20, .int mleastOrder, .int mwordsMany, .ref a23, .ref a24, .ref a25, .ref a26, .ref a27, .ref a28])), (a4, .inl (g.2 1, 900, .inl mtape))] H := hP
        have hD : va_D A [(h0, .inr (12, [.int mthrown, .ref a1, .ref a2, .ref a3, .ref a4, .int mtaped, .ref a6, .int msize, .int x236, .int mfrom, .int mtoken, .int mvalue, .int mfaultKind, .int mfaultPlace, .ref a14, .ref a15, .int mgoal, .int mgoalDays, .int mgoalHearer, .ref a19, .ref a20, .int mleastOrder, .int mwordsMany, .ref a23, .ref a24, .ref a25, .ref a26, .ref a27, .ref a28])), (a4, .inl (g.2 1, 900, .inl mtape))] := hD
        refine W.eq (g2 := F0 m 21 ls [.int (u246.1 0)]) rfl ?_
        rw [q247_1] at q247_0
        rw [q247_1] at q247_2
        refine tp_i (v := seF mtape msize x236) q247_1 ?_
        refine lv_bipush (v := 10) hx hb dX12_advance_21 (by decide) ?_
        refine lv_icmp_ne (tgt := 39) hx hb dX12_advance_23 (by decide) (fun c248 => ?_) (fun c248 => ?_)
        · have c248 := k_ne (a := (seF mtape msize x236).toInt) (b := 10) rfl (by decide) c248
          refine lv_aload_n hx hb dX12_advance_39 rfl (lv_at hl 0 rfl) ?_
          refine lv_aload_n hx hb dX12_advance_40 rfl (lv_at hl 0 rfl) ?_
          refine g_get (C := RX12) (T := TX12) (N := 29) (ci := 12) (v := .int x236) FC hKn hP i_X12 0 rfl rfl 8 (by decide) b_1107 rfl dX12_advance_41 ?_
          refine g_put (C := RX12) (T := TX12) (N := 29) (ci := 12) (v := .int x236) FC hKn hP hD hS i_X12 tyX12 tyX12_ok nmX12 0 rfl rfl 9 (by decide) b_1109 rfl rfl rfl (Nat.le_of_ble_eq_true rfl) dX12_advance_44 (fun H locs hP hD hS => ?_)
          have hP : va_P g.1 vwCl [(h0, .inr (12, [.int mthrown, .ref a1, .ref a2, .ref a3, .ref a4, .int mtaped, .ref a6, .int msize, .int x236, .int x236, .int mtoken, .int mvalue, .int mfaultKind, .int mfaultPlace, .ref a14, .ref a15, .int mgoal, .int mgoalDays, .int mgoalHearer, .ref a19, .ref a20, .int mleastOrder, .int mwordsMany, .ref a23, .ref a24, .ref a25, .ref a26, .ref a27, .ref a28])), (a4, .inl (g.2 1, 900, .inl mtape))] H := hP
          have hD : va_D A [(h0, .inr (12, [.int mthrown, .ref a1, .ref a2, .ref a3, .ref a4, .int mtaped, .ref a6, .int msize, .int x236, .int x236, .int mtoken, .int mvalue, .int mfaultKind, .int mfaultPlace, .ref a14, .ref a15, .int mgoal, .int mgoalDays, .int mgoalHearer, .ref a19, .ref a20, .int mleastOrder, .int mwordsMany, .ref a23, .ref a24, .ref a25, .ref a26, .ref a27, .ref a28])), (a4, .inl (g.2 1, 900, .inl mtape))] := hD
          refine lv_aload_n hx hb dX12_advance_47 rfl (lv_at hl 0 rfl) ?_
          refine lv_aload_n hx hb dX12_advance_48 rfl (lv_at hl 0 rfl) ?_
          refine g_get (C := RX12) (T := TX12) (N := 29) (ci := 12) (v := .int x236) FC hKn hP i_X12 0 rfl rfl 8 (by decide) b_1107 rfl dX12_advance_49 ?_
          refine call_V (As := [.int x236]) (rest := []) (wr := []) FC hKn hZ (k_X12_see l g h0 a1 a2 a3 a4 a6 a14 a15 a19 a20 a23 a24 a25 a26 a27 a28 mthrown mtaped msize x236 x236 mtoken mvalue mfaultKind mfaultPlace mgoal mgoalDays mgoalHearer mleastOrder mwordsMany mtape x236 (by omega) (by omega) (by omega) (by omega) (by omega) (by omega) (by omega) (by omega) (by omega) (by omega)) m_yX12_see b_1108 (ci := 12) rfl rfl rfl hP hD hS hA [0, 1] [] rfl (by decide) rfl (by decide) (by decide) rfl hl.1 rfl (Nat.le_of_ble_eq_true rfl) dX12_advance_52 ⟨(Nat.le_of_ble_eq_true rfl), (Nat.le_of_ble_eq_true rfl)⟩ ⟨(Nat.le_of_ble_eq_true rfl), (Nat.le_of_ble_eq_true rfl)⟩ (fun u249 H locs q250 hP hD hS => ?_)
          obtain ⟨q250_0, q250_1, q250_2⟩ := q250
          have hP : va_P g.1 vwCl [(h0, .inr (12, [.int mthrown, .ref a1, .ref a2, .ref a3, .ref a4, .int mtaped, .ref a6, .int msize, .int x236, .int x236, .int mtoken, .int mvalue, .int mfaultKind, .int mfaultPlace, .ref a14, .ref a15, .int mgoal, .int mgoalDays, .int mgoalHearer, .ref a19, .ref a20, .int mleastOrder, .int mwordsMany, .ref a23, .ref a24, .ref a25, .ref a26, .ref a27, .ref a28])), (a4, .inl (g.2 1, 900, .inl mtape))] H := hP
          have hD : va_D A [(h0, .inr (12, [.int mthrown, .ref a1, .ref a2, .ref a3, .ref a4, .int mtaped, .ref a6, .int msize, .int x236, .int x236, .int mtoken, .int mvalue, .int mfaultKind, .int mfaultPlace, .ref a14, .ref a15, .int mgoal, .int mgoalDays, .int mgoalHearer, .ref a19, .ref a20, .int mleastOrder, .int mwordsMany, .ref a23, .ref a24, .ref a25, .ref a26, .ref a27, .ref a28])), (a4, .inl (g.2 1, 900, .inl mtape))] := hD
          refine W.eq (g2 := F0 m 55 ls [.int (u249.1 0)]) rfl ?_
          rw [q250_1] at q250_0
          rw [q250_1] at q250_2
          refine tp_i (v := seF mtape msize x236) q250_1 ?_
          refine lv_istore_n (lv' := [(1, .int (seF mtape msize x236)), (0, .ref h0)]) hx hb dX12_advance_55 rfl hl (by decide) rfl (fun ls hl => ?_)
          refine lv_iload_n hx hb dX12_advance_56 rfl (lv_at hl 0 rfl) ?_
          refine lv_iconst (v := -1) hx hb dX12_advance_57 (by decide) ?_
          refine lv_icmp_ne (tgt := 69) hx hb dX12_advance_58 (by decide) (fun c251 => ?_) (fun c251 => ?_)
          · have c251 := k_ne (a := (seF mtape msize x236).toInt) (b := -1) rfl (by decide) c251
            refine lv_iload_n hx hb dX12_advance_69 rfl (lv_at hl 0 rfl) ?_
            refine lv_i2l (v := (seF mtape msize x236).toInt64) hx hb dX12_advance_70 rfl ?_
            refine lv_topl (fun z252 e_z252 => ?_)
            have t_z252 : z252.toInt = (seF mtape msize x236).toInt := by rw [e_z252]; exact Int32.toInt_toInt64 _
            refine lv_ldc2 hx hb hown (hB _ b_1110) dX12_advance_71 ?_
            refine lv_ldc2 hx hb hown (hB _ b_1111) dX12_advance_74 ?_
            have kcl97 : (97 : Int64).toInt = 97 := by decide
            have kcl122 : (122 : Int64).toInt = 122 := by decide
            refine call_S (As := [.long z252, .long 97, .long 122]) (rest := []) (wr := [(h0, .inr (12, [.int mthrown, .ref a1, .ref a2, .ref a3, .ref a4, .int mtaped, .ref a6, .int msize, .int x236, .int x236, .int mtoken, .int mvalue, .int mfaultKind, .int mfaultPlace, .ref a14, .ref a15, .int mgoal, .int mgoalDays, .int mgoalHearer, .ref a19, .ref a20, .int mleastOrder, .int mwordsMany, .ref a23, .ref a24, .ref a25, .ref a26, .ref a27, .ref a28])), (a4, .inl (g.2 1, 900, .inl mtape))]) FC hKn hZ (k_X12_in l g z252 ((97 : Int64)) ((122 : Int64))) m_yX12_in b_802 hP hD hS hA [] [0, 1] rfl (by decide) rfl (by decide) (by decide) rfl hl.1 rfl (Nat.le_of_ble_eq_true rfl) dX12_advance_77 ⟨(Nat.le_of_ble_eq_true rfl), (Nat.le_of_ble_eq_true rfl)⟩ ⟨(Nat.le_of_ble_eq_true rfl), (Nat.le_of_ble_eq_true rfl)⟩ (fun u253 H locs q254 hP hD hS => ?_)
            obtain ⟨q254_0, q254_1, q254_2⟩ := q254
            have hP : va_P g.1 vwCl [(h0, .inr (12, [.int mthrown, .ref a1, .ref a2, .ref a3, .ref a4, .int mtaped, .ref a6, .int msize, .int x236, .int x236, .int mtoken, .int mvalue, .int mfaultKind, .int mfaultPlace, .ref a14, .ref a15, .int mgoal, .int mgoalDays, .int mgoalHearer, .ref a19, .ref a20, .int mleastOrder, .int mwordsMany, .ref a23, .ref a24, .ref a25, .ref a26, .ref a27, .ref a28])), (a4, .inl (g.2 1, 900, .inl mtape))] H := hP
            have hD : va_D A [(h0, .inr (12, [.int mthrown, .ref a1, .ref a2, .ref a3, .ref a4, .int mtaped, .ref a6, .int msize, .int x236, .int x236, .int mtoken, .int mvalue, .int mfaultKind, .int mfaultPlace, .ref a14, .ref a15, .int mgoal, .int mgoalDays, .int mgoalHearer, .ref a19, .ref a20, .int mleastOrder, .int mwordsMany, .ref a23, .ref a24, .ref a25, .ref a26, .ref a27, .ref a28])), (a4, .inl (g.2 1, 900, .inl mtape))] := hD
            refine W.eq (g2 := F0 m 80 ls [.int (u253.1 0)]) rfl ?_
            rcases (show (u253.1 0).toInt = 0 ∨ (u253.1 0).toInt = 1 by omega) with c255 | c255
            · skip
              refine lv_if_eq (tgt := 125) hx hb dX12_advance_80 (by decide) (fun c256 => ?_) (fun c256 => ?_)
              · have c256 := k_eq (a := (u253.1 0).toInt) (b := 0) rfl (by decide) c256
                refine lv_iload_n hx hb dX12_advance_125 rfl (lv_at hl 0 rfl) ?_
                refine lv_i2l (v := (seF mtape msize x236).toInt64) hx hb dX12_advance_126 rfl ?_
                refine lv_topl (fun z257 e_z257 => ?_)
                have t_z257 : z257.toInt = (seF mtape msize x236).toInt := by rw [e_z257]; exact Int32.toInt_toInt64 _
                refine lv_ldc2 hx hb hown (hB _ b_1112) dX12_advance_127 ?_
                refine lv_ldc2 hx hb hown (hB _ b_1113) dX12_advance_130 ?_
                have kcl48 : (48 : Int64).toInt = 48 := by decide
                have kcl57 : (57 : Int64).toInt = 57 := by decide
                refine call_S (As := [.long z257, .long 48, .long 57]) (rest := []) (wr := [(h0, .inr (12, [.int mthrown, .ref a1, .ref a2, .ref a3, .ref a4, .int mtaped, .ref a6, .int msize, .int x236, .int x236, .int mtoken, .int mvalue, .int mfaultKind, .int mfaultPlace, .ref a14, .ref a15, .int mgoal, .int mgoalDays, .int mgoalHearer, .ref a19, .ref a20, .int mleastOrder, .int mwordsMany, .ref a23, .ref a24, .ref a25, .ref a26, .ref a27, .ref a28])), (a4, .inl (g.2 1, 900, .inl mtape))]) FC hKn hZ (k_X12_in l g z257 ((48 : Int64)) ((57 : Int64))) m_yX12_in b_802 hP hD hS hA [] [0, 1] rfl (by decide) rfl (by decide) (by decide) rfl hl.1 rfl (Nat.le_of_ble_eq_true rfl) dX12_advance_133 ⟨(Nat.le_of_ble_eq_true rfl), (Nat.le_of_ble_eq_true rfl)⟩ ⟨(Nat.le_of_ble_eq_true rfl), (Nat.le_of_ble_eq_true rfl)⟩ (fun u258 H locs q259 hP hD hS => ?_)
                obtain ⟨q259_0, q259_1, q259_2⟩ := q259
                have hP : va_P g.1 vwCl [(h0, .inr (12, [.int mthrown, .ref a1, .ref a2, .ref a3, .ref a4, .int mtaped, .ref a6, .int msize, .int x236, .int x236, .int mtoken, .int mvalue, .int mfaultKind, .int mfaultPlace, .ref a14, .ref a15, .int mgoal, .int mgoalDays, .int mgoalHearer, .ref a19, .ref a20, .int mleastOrder, .int mwordsMany, .ref a23, .ref a24, .ref a25, .ref a26, .ref a27, .ref a28])), (a4, .inl (g.2 1, 900, .inl mtape))] H := hP
                have hD : va_D A [(h0, .inr (12, [.int mthrown, .ref a1, .ref a2, .ref a3, .ref a4, .int mtaped, .ref a6, .int msize, .int x236, .int x236, .int mtoken, .int mvalue, .int mfaultKind, .int mfaultPlace, .ref a14, .ref a15, .int mgoal, .int mgoalDays, .int mgoalHearer, .ref a19, .ref a20, .int mleastOrder, .int mwordsMany, .ref a23, .ref a24, .ref a25, .ref a26, .ref a27, .ref a28])), (a4, .inl (g.2 1, 900, .inl mtape))] := hD
                refine W.eq (g2 := F0 m 136 ls [.int (u258.1 0)]) rfl ?_
                rcases (show (u258.1 0).toInt = 0 ∨ (u258.1 0).toInt = 1 by omega) with c260 | c260
                · skip
                  refine lv_if_eq (tgt := 214) hx hb dX12_advance_136 (by decide) (fun c261 => ?_) (fun c261 => ?_)
                  · have c261 := k_eq (a := (u258.1 0).toInt) (b := 0) rfl (by decide) c261
                    refine lv_aload_n hx hb dX12_advance_214 rfl (lv_at hl 1 rfl) ?_
                    refine lv_iload_n hx hb dX12_advance_215 rfl (lv_at hl 0 rfl) ?_
                    refine lv_bipush (v := 59) hx hb dX12_advance_216 (by decide) ?_
                    refine lv_icmp_ne (tgt := 225) hx hb dX12_advance_218 (by decide) (fun c262 => ?_) (fun c262 => ?_)
                    · have c262 := k_ne (a := (seF mtape msize x236).toInt) (b := 59) rfl (by decide) c262
                      refine lv_iconst (v := 4) hx hb dX12_advance_225 (by decide) ?_
                      refine g_put (C := RX12) (T := TX12) (N := 29) (ci := 12) (v := .int 4) FC hKn hP hD hS i_X12 tyX12 tyX12_ok nmX12 0 rfl rfl 10 (by decide) b_1114 rfl rfl rfl (Nat.le_of_ble_eq_true rfl) dX12_advance_226 (fun H locs hP hD hS => ?_)
                      have hP : va_P g.1 vwCl [(h0, .inr (12, [.int mthrown, .ref a1, .ref a2, .ref a3, .ref a4, .int mtaped, .ref a6, .int msize, .int x236, .int x236, .int 4, .int mvalue, .int mfaultKind, .int mfaultPlace, .ref a14, .ref a15, .int mgoal, .int mgoalDays, .int mgoalHearer, .ref a19, .ref a20, .int mleastOrder, .int mwordsMany, .ref a23, .ref a24, .ref a25, .ref a26, .ref a27, .ref a28])), (a4, .inl (g.2 1, 900, .inl mtape))] H := hP
                      have hD : va_D A [(h0, .inr (12, [.int mthrown, .ref a1, .ref a2, .ref a3, .ref a4, .int mtaped, .ref a6, .int msize, .int x236, .int x236, .int 4, .int mvalue, .int mfaultKind, .int mfaultPlace, .ref a14, .ref a15, .int mgoal, .int mgoalDays, .int mgoalHearer, .ref a19, .ref a20, .int mleastOrder, .int mwordsMany, .ref a23, .ref a24, .ref a25, .ref a26, .ref a27, .ref a28])), (a4, .inl (g.2 1, 900, .inl mtape))] := hD
                      refine lv_aload_n hx hb dX12_advance_229 rfl (lv_at hl 1 rfl) ?_
                      refine lv_dup hx hb dX12_advance_230 rfl ?_
                      refine g_get (C := RX12) (T := TX12) (N := 29) (ci := 12) (v := .int x236) FC hKn hP i_X12 0 rfl rfl 8 (by decide) b_1107 rfl dX12_advance_231 ?_
                      refine lv_iconst (v := 1) hx hb dX12_advance_234 (by decide) ?_
                      refine lv_iadd hx hb dX12_advance_235 ?_
                      have kc1 : (1 : Int32).toInt = 1 := by decide
                      refine lv_topi (fun z263 e_z263 => ?_)
                      have t_z263 : z263.toInt = x236.toInt + ((1 : Int32)).toInt := by rw [e_z263]; exact fb_addI (by omega) (by omega)
                      refine g_put (C := RX12) (T := TX12) (N := 29) (ci := 12) (v := .int z263) FC hKn hP hD hS i_X12 tyX12 tyX12_ok nmX12 0 rfl rfl 8 (by decide) b_1107 rfl rfl rfl (Nat.le_of_ble_eq_true rfl) dX12_advance_236 (fun H locs hP hD hS => ?_)
                      have hP : va_P g.1 vwCl [(h0, .inr (12, [.int mthrown, .ref a1, .ref a2, .ref a3, .ref a4, .int mtaped, .ref a6, .int msize, .int z263, .int x236, .int 4, .int mvalue, .int mfaultKind, .int mfaultPlace, .ref a14, .ref a15, .int mgoal, .int mgoalDays, .int mgoalHearer, .ref a19, .ref a20, .int mleastOrder, .int mwordsMany, .ref a23, .ref a24, .ref a25, .ref a26, .ref a27, .ref a28])), (a4, .inl (g.2 1, 900, .inl mtape))] H := hP
                      have hD : va_D A [(h0, .inr (12, [.int mthrown, .ref a1, .ref a2, .ref a3, .ref a4, .int mtaped, .ref a6, .int msize, .int z263, .int x236, .int 4, .int mvalue, .int mfaultKind, .int mfaultPlace, .ref a14, .ref a15, .int mgoal, .int mgoalDays, .int mgoalHearer, .ref a19, .ref a20, .int mleastOrder, .int mwordsMany, .ref a23, .ref a24, .ref a25, .ref a26, .ref a27, .ref a28])), (a4, .inl (g.2 1, 900, .inl mtape))] := hD
                      have kc4 : (4 : Int32).toInt = 4 := by decide
                      exact rt_v FX ((fun k => match k with | 0 => 0 | 1 => z263 | 2 => x236 | 3 => (4 : Int32) | 4 => mvalue | _ => 0), (fun _ => fun _ => 0), (fun _ => fun _ => 0)) rfl ⟨(show 0 ≤ z263.toInt ∧ z263.toInt ≤ 900 by omega), (show 0 ≤ x236.toInt ∧ x236.toInt ≤ 900 by omega), (show 0 ≤ ((4 : Int32)).toInt ∧ ((4 : Int32)).toInt ≤ 4 by decide), (show 0 ≤ mvalue.toInt ∧ mvalue.toInt ≤ 99999 by omega), (show 5 * mat.toInt - mtoken.toInt ≤ 5 * (z263).toInt - ((4 : Int32)).toInt by omega), (show 1 ≤ mtoken.toInt → 5 * mat.toInt - mtoken.toInt < 5 * (z263).toInt - ((4 : Int32)).toInt by omega)⟩ (hP.sub [0, 1] rfl) (hD.sub [0, 1] (by decide) rfl) hS (Nat.le_of_ble_eq_true rfl) (Nat.le_of_ble_eq_true rfl) dX12_advance_239
                    · have c262 := k_eq (a := (seF mtape msize x236).toInt) (b := 59) rfl (by decide) c262
                      refine lv_iconst (v := 3) hx hb dX12_advance_221 (by decide) ?_
                      refine lv_goto (tgt := 226) hx hb dX12_advance_222 (by decide) ?_
                      refine g_put (C := RX12) (T := TX12) (N := 29) (ci := 12) (v := .int 3) FC hKn hP hD hS i_X12 tyX12 tyX12_ok nmX12 0 rfl rfl 10 (by decide) b_1114 rfl rfl rfl (Nat.le_of_ble_eq_true rfl) dX12_advance_226 (fun H locs hP hD hS => ?_)
                      have hP : va_P g.1 vwCl [(h0, .inr (12, [.int mthrown, .ref a1, .ref a2, .ref a3, .ref a4, .int mtaped, .ref a6, .int msize, .int x236, .int x236, .int 3, .int mvalue, .int mfaultKind, .int mfaultPlace, .ref a14, .ref a15, .int mgoal, .int mgoalDays, .int mgoalHearer, .ref a19, .ref a20, .int mleastOrder, .int mwordsMany, .ref a23, .ref a24, .ref a25, .ref a26, .ref a27, .ref a28])), (a4, .inl (g.2 1, 900, .inl mtape))] H := hP
                      have hD : va_D A [(h0, .inr (12, [.int mthrown, .ref a1, .ref a2, .ref a3, .ref a4, .int mtaped, .ref a6, .int msize, .int x236, .int x236, .int 3, .int mvalue, .int mfaultKind, .int mfaultPlace, .ref a14, .ref a15, .int mgoal, .int mgoalDays, .int mgoalHearer, .ref a19, .ref a20, .int mleastOrder, .int mwordsMany, .ref a23, .ref a24, .ref a25, .ref a26, .ref a27, .ref a28])), (a4, .inl (g.2 1, 900, .inl mtape))] := hD
                      refine lv_aload_n hx hb dX12_advance_229 rfl (lv_at hl 1 rfl) ?_
                      refine lv_dup hx hb dX12_advance_230 rfl ?_
                      refine g_get (C := RX12) (T := TX12) (N := 29) (ci := 12) (v := .int x236) FC hKn hP i_X12 0 rfl rfl 8 (by decide) b_1107 rfl dX12_advance_231 ?_
                      refine lv_iconst (v := 1) hx hb dX12_advance_234 (by decide) ?_
                      refine lv_iadd hx hb dX12_advance_235 ?_
                      have kc1 : (1 : Int32).toInt = 1 := by decide
                      refine lv_topi (fun z264 e_z264 => ?_)
                      have t_z264 : z264.toInt = x236.toInt + ((1 : Int32)).toInt := by rw [e_z264]; exact fb_addI (by omega) (by omega)
                      refine g_put (C := RX12) (T := TX12) (N := 29) (ci := 12) (v := .int z264) FC hKn hP hD hS i_X12 tyX12 tyX12_ok nmX12 0 rfl rfl 8 (by decide) b_1107 rfl rfl rfl (Nat.le_of_ble_eq_true rfl) dX12_advance_236 (fun H locs hP hD hS => ?_)
                      have hP : va_P g.1 vwCl [(h0, .inr (12, [.int mthrown, .ref a1, .ref a2, .ref a3, .ref a4, .int mtaped, .ref a6, .int msize, .int z264, .int x236, .int 3, .int mvalue, .int mfaultKind, .int mfaultPlace, .ref a14, .ref a15, .int mgoal, .int mgoalDays, .int mgoalHearer, .ref a19, .ref a20, .int mleastOrder, .int mwordsMany, .ref a23, .ref a24, .ref a25, .ref a26, .ref a27, .ref a28])), (a4, .inl (g.2 1, 900, .inl mtape))] H := hP
                      have hD : va_D A [(h0, .inr (12, [.int mthrown, .ref a1, .ref a2, .ref a3, .ref a4, .int mtaped, .ref a6, .int msize, .int z264, .int x236, .int 3, .int mvalue, .int mfaultKind, .int mfaultPlace, .ref a14, .ref a15, .int mgoal, .int mgoalDays, .int mgoalHearer, .ref a19, .ref a20, .int mleastOrder, .int mwordsMany, .ref a23, .ref a24, .ref a25, .ref a26, .ref a27, .ref a28])), (a4, .inl (g.2 1, 900, .inl mtape))] := hD
                      have kc3 : (3 : Int32).toInt = 3 := by decide
                      exact rt_v FX ((fun k => match k with | 0 => 0 | 1 => z264 | 2 => x236 | 3 => (3 : Int32) | 4 => mvalue | _ => 0), (fun _ => fun _ => 0), (fun _ => fun _ => 0)) rfl ⟨(show 0 ≤ z264.toInt ∧ z264.toInt ≤ 900 by omega), (show 0 ≤ x236.toInt ∧ x236.toInt ≤ 900 by omega), (show 0 ≤ ((3 : Int32)).toInt ∧ ((3 : Int32)).toInt ≤ 4 by decide), (show 0 ≤ mvalue.toInt ∧ mvalue.toInt ≤ 99999 by omega), (show 5 * mat.toInt - mtoken.toInt ≤ 5 * (z264).toInt - ((3 : Int32)).toInt by omega), (show 1 ≤ mtoken.toInt → 5 * mat.toInt - mtoken.toInt < 5 * (z264).toInt - ((3 : Int32)).toInt by omega)⟩ (hP.sub [0, 1] rfl) (hD.sub [0, 1] (by decide) rfl) hS (Nat.le_of_ble_eq_true rfl) (Nat.le_of_ble_eq_true rfl) dX12_advance_239
                  · have c261 := k_ne (a := (u258.1 0).toInt) (b := 0) rfl (by decide) c261
                    exfalso; omega
                · have c260_r := q259_2 c260
                  refine lv_if_eq (tgt := 214) hx hb dX12_advance_136 (by decide) (fun c265 => ?_) (fun c265 => ?_)
                  · have c265 := k_eq (a := (u258.1 0).toInt) (b := 0) rfl (by decide) c265
                    exfalso; omega
                  · have c265 := k_ne (a := (u258.1 0).toInt) (b := 0) rfl (by decide) c265
                    refine lv_aload_n hx hb dX12_advance_139 rfl (lv_at hl 1 rfl) ?_
                    refine lv_iconst (v := 0) hx hb dX12_advance_140 (by decide) ?_
                    refine g_put (C := RX12) (T := TX12) (N := 29) (ci := 12) (v := .int 0) FC hKn hP hD hS i_X12 tyX12 tyX12_ok nmX12 0 rfl rfl 11 (by decide) b_1115 rfl rfl rfl (Nat.le_of_ble_eq_true rfl) dX12_advance_141 (fun H locs hP hD hS => ?_)
                    have hP : va_P g.1 vwCl [(h0, .inr (12, [.int mthrown, .ref a1, .ref a2, .ref a3, .ref a4, .int mtaped, .ref a6, .int msize, .int x236, .int x236, .int mtoken, .int 0, .int mfaultKind, .int mfaultPlace, .ref a14, .ref a15, .int mgoal, .int mgoalDays, .int mgoalHearer, .ref a19, .ref a20, .int mleastOrder, .int mwordsMany, .ref a23, .ref a24, .ref a25, .ref a26, .ref a27, .ref a28])), (a4, .inl (g.2 1, 900, .inl mtape))] H := hP
                    have hD : va_D A [(h0, .inr (12, [.int mthrown, .ref a1, .ref a2, .ref a3, .ref a4, .int mtaped, .ref a6, .int msize, .int x236, .int x236, .int mtoken, .int 0, .int mfaultKind, .int mfaultPlace, .ref a14, .ref a15, .int mgoal, .int mgoalDays, .int mgoalHearer, .ref a19, .ref a20, .int mleastOrder, .int mwordsMany, .ref a23, .ref a24, .ref a25, .ref a26, .ref a27, .ref a28])), (a4, .inl (g.2 1, 900, .inl mtape))] := hD
                    have lp301 : ∀ (n303 : Nat) (x298 : Int32) (x299 : Int32) (H : Heap) (locs : List Loc) (ls : Array Slot), 0 ≤ x298.toInt ∧ x298.toInt ≤ 900 → 0 ≤ x299.toInt ∧ x299.toInt ≤ 99999 → x236.toInt ≤ x298.toInt → (900 - x298.toInt).toNat < n303 → va_P g.1 vwCl [(h0, .inr (12, [.int mthrown, .ref a1, .ref a2, .ref a3, .ref a4, .int mtaped, .ref a6, .int msize, .int x298, .int x236, .int mtoken, .int x299, .int mfaultKind, .int mfaultPlace, .ref a14, .ref a15, .int mgoal, .int mgoalDays, .int mgoalHearer, .ref a19, .ref a20, .int mleastOrder, .int mwordsMany, .ref a23, .ref a24, .ref a25, .ref a26, .ref a27, .ref a28])), (a4, .inl (g.2 1, 900, .inl mtape))] H → va_D A [(h0, .inr (12, [.int mthrown, .ref a1, .ref a2, .ref a3, .ref a4, .int mtaped, .ref a6, .int msize, .int x298, .int x236, .int mtoken, .int x299, .int mfaultKind, .int mfaultPlace, .ref a14, .ref a15, .int mgoal, .int mgoalDays, .int mgoalHearer, .ref a19, .ref a20, .int mleastOrder, .int mwordsMany, .ref a23, .ref a24, .ref a25, .ref a26, .ref a27, .ref a28])), (a4, .inl (g.2 1, 900, .inl mtape))] → va_S A s.heap H locs → lv_has ls 2 [(1, .int (seF mtape msize x236)), (0, .ref h0)] → W p l e { frames := 1, cells := 0, slots := 0, locals := 25 } s m ([.ref h0].toArray) below meth c H locs 0 0 (MQ below (QX (S := (Nat → Int32) × (Nat → Nat → Int32) × (Nat → Nat → Int64)) (fun _ => none) (fun u => (0 ≤ (u.1 1).toInt ∧ (u.1 1).toInt ≤ 900) ∧ (0 ≤ (u.1 2).toInt ∧ (u.1 2).toInt ≤ 900) ∧ (0 ≤ (u.1 3).toInt ∧ (u.1 3).toInt ≤ 4) ∧ (0 ≤ (u.1 4).toInt ∧ (u.1 4).toInt ≤ 99999) ∧ (5 * mat.toInt - mtoken.toInt ≤ 5 * (u.1 1).toInt - (u.1 3).toInt) ∧ (1 ≤ mtoken.toInt → 5 * mat.toInt - mtoken.toInt < 5 * (u.1 1).toInt - (u.1 3).toInt)) g (fun u => [(h0, .inr (12, [.int mthrown, .ref a1, .ref a2, .ref a3, .ref a4, .int mtaped, .ref a6, .int msize, .int (u.1 1), .int (u.1 2), .int (u.1 3), .int (u.1 4), .int mfaultKind, .int mfaultPlace, .ref a14, .ref a15, .int mgoal, .int mgoalDays, .int mgoalHearer, .ref a19, .ref a20, .int mleastOrder, .int mwordsMany, .ref a23, .ref a24, .ref a25, .ref a26, .ref a27, .ref a28])), (a4, .inl (g.2 1, 900, .inl mtape))]) A) ([.ref h0].toArray) s 0 0 A) (F0 m 144 ls []) := by
                      intro n303
                      induction n303 with
                      | zero =>
                        intro x298 x299 H locs ls h_x298 h_x299 hi300 hn304
                        exact absurd hn304 (Nat.not_lt_zero _)
                      | succ n303 ih302 =>
                        intro x298 x299 H locs ls h_x298 h_x299 hi300 hn304 hP hD hS hl
                        refine lv_aload_n hx hb dX12_advance_144 rfl (lv_at hl 1 rfl) ?_
                        refine lv_aload_n hx hb dX12_advance_145 rfl (lv_at hl 1 rfl) ?_
                        refine g_get (C := RX12) (T := TX12) (N := 29) (ci := 12) (v := .int x298) FC hKn hP i_X12 0 rfl rfl 8 (by decide) b_1107 rfl dX12_advance_146 ?_
                        refine call_V (As := [.int x298]) (rest := []) (wr := []) FC hKn hZ (k_X12_see l g h0 a1 a2 a3 a4 a6 a14 a15 a19 a20 a23 a24 a25 a26 a27 a28 mthrown mtaped msize x298 x236 mtoken x299 mfaultKind mfaultPlace mgoal mgoalDays mgoalHearer mleastOrder mwordsMany mtape x298 (by omega) (by omega) (by omega) (by omega) (by omega) (by omega) (by omega) (by omega) (by omega) (by omega)) m_yX12_see b_1108 (ci := 12) rfl rfl rfl hP hD hS hA [0, 1] [] rfl (by decide) rfl (by decide) (by decide) rfl hl.1 rfl (Nat.le_of_ble_eq_true rfl) dX12_advance_149 ⟨(Nat.le_of_ble_eq_true rfl), (Nat.le_of_ble_eq_true rfl)⟩ ⟨(Nat.le_of_ble_eq_true rfl), (Nat.le_of_ble_eq_true rfl)⟩ (fun u305 H locs q306 hP hD hS => ?_)
                        obtain ⟨q306_0, q306_1, q306_2⟩ := q306
                        have hP : va_P g.1 vwCl [(h0, .inr (12, [.int mthrown, .ref a1, .ref a2, .ref a3, .ref a4, .int mtaped, .ref a6, .int msize, .int x298, .int x236, .int mtoken, .int x299, .int mfaultKind, .int mfaultPlace, .ref a14, .ref a15, .int mgoal, .int mgoalDays, .int mgoalHearer, .ref a19, .ref a20, .int mleastOrder, .int mwordsMany, .ref a23, .ref a24, .ref a25, .ref a26, .ref a27, .ref a28])), (a4, .inl (g.2 1, 900, .inl mtape))] H := hP
                        have hD : va_D A [(h0, .inr (12, [.int mthrown, .ref a1, .ref a2, .ref a3, .ref a4, .int mtaped, .ref a6, .int msize, .int x298, .int x236, .int mtoken, .int x299, .int mfaultKind, .int mfaultPlace, .ref a14, .ref a15, .int mgoal, .int mgoalDays, .int mgoalHearer, .ref a19, .ref a20, .int mleastOrder, .int mwordsMany, .ref a23, .ref a24, .ref a25, .ref a26, .ref a27, .ref a28])), (a4, .inl (g.2 1, 900, .inl mtape))] := hD
                        refine W.eq (g2 := F0 m 152 ls [.int (u305.1 0)]) rfl ?_
                        rw [q306_1] at q306_0
                        rw [q306_1] at q306_2
                        refine tp_i (v := seF mtape msize x298) q306_1 ?_
                        have ks307 : x298.toInt = x236.toInt → (seF mtape msize x298).toInt = (seF mtape msize x236).toInt := fun q => by rw [Int32.toInt_inj.mp q]
                        refine lv_i2l (v := (seF mtape msize x298).toInt64) hx hb dX12_advance_152 rfl ?_
                        refine lv_topl (fun z308 e_z308 => ?_)
                        have t_z308 : z308.toInt = (seF mtape msize x298).toInt := by rw [e_z308]; exact Int32.toInt_toInt64 _
                        refine lv_ldc2 hx hb hown (hB _ b_1112) dX12_advance_153 ?_
                        refine lv_ldc2 hx hb hown (hB _ b_1113) dX12_advance_156 ?_
                        refine call_S (As := [.long z308, .long 48, .long 57]) (rest := []) (wr := [(h0, .inr (12, [.int mthrown, .ref a1, .ref a2, .ref a3, .ref a4, .int mtaped, .ref a6, .int msize, .int x298, .int x236, .int mtoken, .int x299, .int mfaultKind, .int mfaultPlace, .ref a14, .ref a15, .int mgoal, .int mgoalDays, .int mgoalHearer, .ref a19, .ref a20, .int mleastOrder, .int mwordsMany, .ref a23, .ref a24, .ref a25, .ref a26, .ref a27, .ref a28])), (a4, .inl (g.2 1, 900, .inl mtape))]) FC hKn hZ (k_X12_in l g z308 ((48 : Int64)) ((57 : Int64))) m_yX12_in b_802 hP hD hS hA [] [0, 1] rfl (by decide) rfl (by decide) (by decide) rfl hl.1 rfl (Nat.le_of_ble_eq_true rfl) dX12_advance_159 ⟨(Nat.le_of_ble_eq_true rfl), (Nat.le_of_ble_eq_true rfl)⟩ ⟨(Nat.le_of_ble_eq_true rfl), (Nat.le_of_ble_eq_true rfl)⟩ (fun u309 H locs q310 hP hD hS => ?_)
                        obtain ⟨q310_0, q310_1, q310_2⟩ := q310
                        have hP : va_P g.1 vwCl [(h0, .inr (12, [.int mthrown, .ref a1, .ref a2, .ref a3, .ref a4, .int mtaped, .ref a6, .int msize, .int x298, .int x236, .int mtoken, .int x299, .int mfaultKind, .int mfaultPlace, .ref a14, .ref a15, .int mgoal, .int mgoalDays, .int mgoalHearer, .ref a19, .ref a20, .int mleastOrder, .int mwordsMany, .ref a23, .ref a24, .ref a25, .ref a26, .ref a27, .ref a28])), (a4, .inl (g.2 1, 900, .inl mtape))] H := hP
                        have hD : va_D A [(h0, .inr (12, [.int mthrown, .ref a1, .ref a2, .ref a3, .ref a4, .int mtaped, .ref a6, .int msize, .int x298, .int x236, .int mtoken, .int x299, .int mfaultKind, .int mfaultPlace, .ref a14, .ref a15, .int mgoal, .int mgoalDays, .int mgoalHearer, .ref a19, .ref a20, .int mleastOrder, .int mwordsMany, .ref a23, .ref a24, .ref a25, .ref a26, .ref a27, .ref a28])), (a4, .inl (g.2 1, 900, .inl mtape))] := hD
                        refine W.eq (g2 := F0 m 162 ls [.int (u309.1 0)]) rfl ?_
                        rcases (show (u309.1 0).toInt = 0 ∨ (u309.1 0).toInt = 1 by omega) with c311 | c311
                        · skip
                          refine lv_if_eq (tgt := 206) hx hb dX12_advance_162 (by decide) (fun c312 => ?_) (fun c312 => ?_)
                          · have c312 := k_eq (a := (u309.1 0).toInt) (b := 0) rfl (by decide) c312
                            refine lv_aload_n hx hb dX12_advance_206 rfl (lv_at hl 1 rfl) ?_
                            refine lv_iconst (v := 2) hx hb dX12_advance_207 (by decide) ?_
                            refine g_put (C := RX12) (T := TX12) (N := 29) (ci := 12) (v := .int 2) FC hKn hP hD hS i_X12 tyX12 tyX12_ok nmX12 0 rfl rfl 10 (by decide) b_1114 rfl rfl rfl (Nat.le_of_ble_eq_true rfl) dX12_advance_208 (fun H locs hP hD hS => ?_)
                            have hP : va_P g.1 vwCl [(h0, .inr (12, [.int mthrown, .ref a1, .ref a2, .ref a3, .ref a4, .int mtaped, .ref a6, .int msize, .int x298, .int x236, .int 2, .int x299, .int mfaultKind, .int mfaultPlace, .ref a14, .ref a15, .int mgoal, .int mgoalDays, .int mgoalHearer, .ref a19, .ref a20, .int mleastOrder, .int mwordsMany, .ref a23, .ref a24, .ref a25, .ref a26, .ref a27, .ref a28])), (a4, .inl (g.2 1, 900, .inl mtape))] H := hP
                            have hD : va_D A [(h0, .inr (12, [.int mthrown, .ref a1, .ref a2, .ref a3, .ref a4, .int mtaped, .ref a6, .int msize, .int x298, .int x236, .int 2, .int x299, .int mfaultKind, .int mfaultPlace, .ref a14, .ref a15, .int mgoal, .int mgoalDays, .int mgoalHearer, .ref a19, .ref a20, .int mleastOrder, .int mwordsMany, .ref a23, .ref a24, .ref a25, .ref a26, .ref a27, .ref a28])), (a4, .inl (g.2 1, 900, .inl mtape))] := hD
                            refine lv_goto (tgt := 239) hx hb dX12_advance_211 (by decide) ?_
                            have kc2 : (2 : Int32).toInt = 2 := by decide
                            exact rt_v FX ((fun k => match k with | 0 => 0 | 1 => x298 | 2 => x236 | 3 => (2 : Int32) | 4 => x299 | _ => 0), (fun _ => fun _ => 0), (fun _ => fun _ => 0)) rfl ⟨(show 0 ≤ x298.toInt ∧ x298.toInt ≤ 900 by omega), (show 0 ≤ x236.toInt ∧ x236.toInt ≤ 900 by omega), (show 0 ≤ ((2 : Int32)).toInt ∧ ((2 : Int32)).toInt ≤ 4 by decide), (show 0 ≤ x299.toInt ∧ x299.toInt ≤ 99999 by omega), (show 5 * mat.toInt - mtoken.toInt ≤ 5 * (x298).toInt - ((2 : Int32)).toInt by omega), (show 1 ≤ mtoken.toInt → 5 * mat.toInt - mtoken.toInt < 5 * (x298).toInt - ((2 : Int32)).toInt by omega)⟩ (hP.sub [0, 1] rfl) (hD.sub [0, 1] (by decide) rfl) hS (Nat.le_of_ble_eq_true rfl) (Nat.le_of_ble_eq_true rfl) dX12_advance_239
                          · have c312 := k_ne (a := (u309.1 0).toInt) (b := 0) rfl (by decide) c312
                            exfalso; omega
                        · have c311_r := q310_2 c311
                          refine lv_if_eq (tgt := 206) hx hb dX12_advance_162 (by decide) (fun c313 => ?_) (fun c313 => ?_)
                          · have c313 := k_eq (a := (u309.1 0).toInt) (b := 0) rfl (by decide) c313
                            exfalso; omega
                          · have c313 := k_ne (a := (u309.1 0).toInt) (b := 0) rfl (by decide) c313
                            refine lv_aload_n hx hb dX12_advance_165 rfl (lv_at hl 1 rfl) ?_
                            refine lv_ldc hx hb hown (hB _ b_1116) dX12_advance_166 ?_
                            refine lv_bipush (v := 10) hx hb dX12_advance_168 (by decide) ?_
                            refine lv_aload_n hx hb dX12_advance_170 rfl (lv_at hl 1 rfl) ?_
                            refine g_get (C := RX12) (T := TX12) (N := 29) (ci := 12) (v := .int x299) FC hKn hP i_X12 0 rfl rfl 11 (by decide) b_1115 rfl dX12_advance_171 ?_
                            refine lv_imul hx hb dX12_advance_174 ?_
                            have kc10 : (10 : Int32).toInt = 10 := by decide
                            refine lv_topi (fun z314 e_z314 => ?_)
                            have t_z314 : z314.toInt = 10 * x299.toInt := by rw [e_z314, fb_mulI (by rw [show (10 : Int32).toInt = 10 by decide]; omega) (by rw [show (10 : Int32).toInt = 10 by decide]; omega), show (10 : Int32).toInt = 10 by decide]
                            refine lv_aload_n hx hb dX12_advance_175 rfl (lv_at hl 1 rfl) ?_
                            refine lv_aload_n hx hb dX12_advance_176 rfl (lv_at hl 1 rfl) ?_
                            refine g_get (C := RX12) (T := TX12) (N := 29) (ci := 12) (v := .int x298) FC hKn hP i_X12 0 rfl rfl 8 (by decide) b_1107 rfl dX12_advance_177 ?_
                            refine call_V (As := [.int x298]) (rest := [.int z314, .int 99999, .ref h0]) (wr := []) FC hKn hZ (k_X12_see l g h0 a1 a2 a3 a4 a6 a14 a15 a19 a20 a23 a24 a25 a26 a27 a28 mthrown mtaped msize x298 x236 mtoken x299 mfaultKind mfaultPlace mgoal mgoalDays mgoalHearer mleastOrder mwordsMany mtape x298 (by omega) (by omega) (by omega) (by omega) (by omega) (by omega) (by omega) (by omega) (by omega) (by omega)) m_yX12_see b_1108 (ci := 12) rfl rfl rfl hP hD hS hA [0, 1] [] rfl (by decide) rfl (by decide) (by decide) rfl hl.1 rfl (Nat.le_of_ble_eq_true rfl) dX12_advance_180 ⟨(Nat.le_of_ble_eq_true rfl), (Nat.le_of_ble_eq_true rfl)⟩ ⟨(Nat.le_of_ble_eq_true rfl), (Nat.le_of_ble_eq_true rfl)⟩ (fun u315 H locs q316 hP hD hS => ?_)
                            obtain ⟨q316_0, q316_1, q316_2⟩ := q316
                            have hP : va_P g.1 vwCl [(h0, .inr (12, [.int mthrown, .ref a1, .ref a2, .ref a3, .ref a4, .int mtaped, .ref a6, .int msize, .int x298, .int x236, .int mtoken, .int x299, .int mfaultKind, .int mfaultPlace, .ref a14, .ref a15, .int mgoal, .int mgoalDays, .int mgoalHearer, .ref a19, .ref a20, .int mleastOrder, .int mwordsMany, .ref a23, .ref a24, .ref a25, .ref a26, .ref a27, .ref a28])), (a4, .inl (g.2 1, 900, .inl mtape))] H := hP
                            have hD : va_D A [(h0, .inr (12, [.int mthrown, .ref a1, .ref a2, .ref a3, .ref a4, .int mtaped, .ref a6, .int msize, .int x298, .int x236, .int mtoken, .int x299, .int mfaultKind, .int mfaultPlace, .ref a14, .ref a15, .int mgoal, .int mgoalDays, .int mgoalHearer, .ref a19, .ref a20, .int mleastOrder, .int mwordsMany, .ref a23, .ref a24, .ref a25, .ref a26, .ref a27, .ref a28])), (a4, .inl (g.2 1, 900, .inl mtape))] := hD
                            refine W.eq (g2 := F0 m 183 ls [.int (u315.1 0), .int z314, .int 99999, .ref h0]) rfl ?_
                            rw [q316_1] at q316_0
                            rw [q316_1] at q316_2
                            refine tp_i (v := seF mtape msize x298) q316_1 ?_
                            refine lv_iadd hx hb dX12_advance_183 ?_
                            refine lv_topi (fun z317 e_z317 => ?_)
                            have t_z317 : z317.toInt = z314.toInt + (seF mtape msize x298).toInt := by rw [e_z317]; exact fb_addI (by omega) (by omega)
                            refine lv_bipush (v := 48) hx hb dX12_advance_184 (by decide) ?_
                            refine lv_isub hx hb dX12_advance_186 ?_
                            have kc48 : (48 : Int32).toInt = 48 := by decide
                            refine lv_topi (fun z318 e_z318 => ?_)
                            have t_z318 : z318.toInt = z317.toInt - ((48 : Int32)).toInt := by rw [e_z318]; exact fb_subI (by omega) (by omega)
                            refine va_mmin hx hb (by rw [hml]; exact hl.1.symm) hown (hB _ b_1050) (hB _ b_121) (hB _ b_58) (hB _ b_122) (Nat.le_of_ble_eq_true rfl) (Nat.le_of_ble_eq_true rfl) (Nat.le_of_ble_eq_true rfl) (Nat.le_of_ble_eq_true rfl) dX12_advance_187 ?_
                            have kc99999 : (99999 : Int32).toInt = 99999 := by decide
                            refine lv_topi (fun z319 e_z319 => ?_)
                            have t_z319 : (z319.toInt ≤ ((99999 : Int32)).toInt ∧ z319.toInt ≤ z318.toInt ∧ (z319.toInt = ((99999 : Int32)).toInt ∨ z319.toInt = z318.toInt)) := by rw [e_z319]; exact mmin_b _ _
                            refine g_put (C := RX12) (T := TX12) (N := 29) (ci := 12) (v := .int z319) FC hKn hP hD hS i_X12 tyX12 tyX12_ok nmX12 0 rfl rfl 11 (by decide) b_1115 rfl rfl rfl (Nat.le_of_ble_eq_true rfl) dX12_advance_190 (fun H locs hP hD hS => ?_)
                            have hP : va_P g.1 vwCl [(h0, .inr (12, [.int mthrown, .ref a1, .ref a2, .ref a3, .ref a4, .int mtaped, .ref a6, .int msize, .int x298, .int x236, .int mtoken, .int z319, .int mfaultKind, .int mfaultPlace, .ref a14, .ref a15, .int mgoal, .int mgoalDays, .int mgoalHearer, .ref a19, .ref a20, .int mleastOrder, .int mwordsMany, .ref a23, .ref a24, .ref a25, .ref a26, .ref a27, .ref a28])), (a4, .inl (g.2 1, 900, .inl mtape))] H := hP
                            have hD : va_D A [(h0, .inr (12, [.int mthrown, .ref a1, .ref a2, .ref a3, .ref a4, .int mtaped, .ref a6, .int msize, .int x298, .int x236, .int mtoken, .int z319, .int mfaultKind, .int mfaultPlace, .ref a14, .ref a15, .int mgoal, .int mgoalDays, .int mgoalHearer, .ref a19, .ref a20, .int mleastOrder, .int mwordsMany, .ref a23, .ref a24, .ref a25, .ref a26, .ref a27, .ref a28])), (a4, .inl (g.2 1, 900, .inl mtape))] := hD
                            refine lv_aload_n hx hb dX12_advance_193 rfl (lv_at hl 1 rfl) ?_
                            refine lv_dup hx hb dX12_advance_194 rfl ?_
                            refine g_get (C := RX12) (T := TX12) (N := 29) (ci := 12) (v := .int x298) FC hKn hP i_X12 0 rfl rfl 8 (by decide) b_1107 rfl dX12_advance_195 ?_
                            refine lv_iconst (v := 1) hx hb dX12_advance_198 (by decide) ?_
                            refine lv_iadd hx hb dX12_advance_199 ?_
                            have kc1 : (1 : Int32).toInt = 1 := by decide
                            refine lv_topi (fun z320 e_z320 => ?_)
                            have t_z320 : z320.toInt = x298.toInt + ((1 : Int32)).toInt := by rw [e_z320]; exact fb_addI (by omega) (by omega)
                            refine g_put (C := RX12) (T := TX12) (N := 29) (ci := 12) (v := .int z320) FC hKn hP hD hS i_X12 tyX12 tyX12_ok nmX12 0 rfl rfl 8 (by decide) b_1107 rfl rfl rfl (Nat.le_of_ble_eq_true rfl) dX12_advance_200 (fun H locs hP hD hS => ?_)
                            have hP : va_P g.1 vwCl [(h0, .inr (12, [.int mthrown, .ref a1, .ref a2, .ref a3, .ref a4, .int mtaped, .ref a6, .int msize, .int z320, .int x236, .int mtoken, .int z319, .int mfaultKind, .int mfaultPlace, .ref a14, .ref a15, .int mgoal, .int mgoalDays, .int mgoalHearer, .ref a19, .ref a20, .int mleastOrder, .int mwordsMany, .ref a23, .ref a24, .ref a25, .ref a26, .ref a27, .ref a28])), (a4, .inl (g.2 1, 900, .inl mtape))] H := hP
                            have hD : va_D A [(h0, .inr (12, [.int mthrown, .ref a1, .ref a2, .ref a3, .ref a4, .int mtaped, .ref a6, .int msize, .int z320, .int x236, .int mtoken, .int z319, .int mfaultKind, .int mfaultPlace, .ref a14, .ref a15, .int mgoal, .int mgoalDays, .int mgoalHearer, .ref a19, .ref a20, .int mleastOrder, .int mwordsMany, .ref a23, .ref a24, .ref a25, .ref a26, .ref a27, .ref a28])), (a4, .inl (g.2 1, 900, .inl mtape))] := hD
                            refine lv_goto (tgt := 144) hx hb dX12_advance_203 (by decide) ?_
                            exact ih302 z320 z319 _ _ ls (by omega) (by omega) (by omega) (by omega) hP hD hS (lv_sub hl [0, 1] rfl)
                    have kc0 : (0 : Int32).toInt = 0 := by decide
                    exact lp301 _ x236 (0 : Int32) _ _ ls (by omega) (by decide) (by omega) (Nat.lt_succ_self _) hP hD hS (lv_sub hl [0, 1] rfl)
              · have c256 := k_ne (a := (u253.1 0).toInt) (b := 0) rfl (by decide) c256
                exfalso; omega
            · have c255_r := q254_2 c255
              refine lv_if_eq (tgt := 125) hx hb dX12_advance_80 (by decide) (fun c321 => ?_) (fun c321 => ?_)
              · have c321 := k_eq (a := (u253.1 0).toInt) (b := 0) rfl (by decide) c321
                exfalso; omega
              · have c321 := k_ne (a := (u253.1 0).toInt) (b := 0) rfl (by decide) c321
                have lp344 : ∀ (n346 : Nat) (x342 : Int32) (H : Heap) (locs : List Loc) (ls : Array Slot), 0 ≤ x342.toInt ∧ x342.toInt ≤ 900 → x236.toInt ≤ x342.toInt → (900 - x342.toInt).toNat < n346 → va_P g.1 vwCl [(h0, .inr (12, [.int mthrown, .ref a1, .ref a2, .ref a3, .ref a4, .int mtaped, .ref a6, .int msize, .int x342, .int x236, .int mtoken, .int mvalue, .int mfaultKind, .int mfaultPlace, .ref a14, .ref a15, .int mgoal, .int mgoalDays, .int mgoalHearer, .ref a19, .ref a20, .int mleastOrder, .int mwordsMany, .ref a23, .ref a24, .ref a25, .ref a26, .ref a27, .ref a28])), (a4, .inl (g.2 1, 900, .inl mtape))] H → va_D A [(h0, .inr (12, [.int mthrown, .ref a1, .ref a2, .ref a3, .ref a4, .int mtaped, .ref a6, .int msize, .int x342, .int x236, .int mtoken, .int mvalue, .int mfaultKind, .int mfaultPlace, .ref a14, .ref a15, .int mgoal, .int mgoalDays, .int mgoalHearer, .ref a19, .ref a20, .int mleastOrder, .int mwordsMany, .ref a23, .ref a24, .ref a25, .ref a26, .ref a27, .ref a28])), (a4, .inl (g.2 1, 900, .inl mtape))] → va_S A s.heap H locs → lv_has ls 2 [(1, .int (seF mtape msize x236)), (0, .ref h0)] → W p l e { frames := 1, cells := 0, slots := 0, locals := 25 } s m ([.ref h0].toArray) below meth c H locs 0 0 (MQ below (QX (S := (Nat → Int32) × (Nat → Nat → Int32) × (Nat → Nat → Int64)) (fun _ => none) (fun u => (0 ≤ (u.1 1).toInt ∧ (u.1 1).toInt ≤ 900) ∧ (0 ≤ (u.1 2).toInt ∧ (u.1 2).toInt ≤ 900) ∧ (0 ≤ (u.1 3).toInt ∧ (u.1 3).toInt ≤ 4) ∧ (0 ≤ (u.1 4).toInt ∧ (u.1 4).toInt ≤ 99999) ∧ (5 * mat.toInt - mtoken.toInt ≤ 5 * (u.1 1).toInt - (u.1 3).toInt) ∧ (1 ≤ mtoken.toInt → 5 * mat.toInt - mtoken.toInt < 5 * (u.1 1).toInt - (u.1 3).toInt)) g (fun u => [(h0, .inr (12, [.int mthrown, .ref a1, .ref a2, .ref a3, .ref a4, .int mtaped, .ref a6, .int msize, .int (u.1 1), .int (u.1 2), .int (u.1 3), .int (u.1 4), .int mfaultKind, .int mfaultPlace, .ref a14, .ref a15, .int mgoal, .int mgoalDays, .int mgoalHearer, .ref a19, .ref a20, .int mleastOrder, .int mwordsMany, .ref a23, .ref a24, .ref a25, .ref a26, .ref a27, .ref a28])), (a4, .inl (g.2 1, 900, .inl mtape))]) A) ([.ref h0].toArray) s 0 0 A) (F0 m 83 ls []) := by
                  intro n346
                  induction n346 with
                  | zero =>
                    intro x342 H locs ls h_x342 hi343 hn347
                    exact absurd hn347 (Nat.not_lt_zero _)
                  | succ n346 ih345 =>
                    intro x342 H locs ls h_x342 hi343 hn347 hP hD hS hl
                    refine lv_aload_n hx hb dX12_advance_83 rfl (lv_at hl 1 rfl) ?_
                    refine lv_aload_n hx hb dX12_advance_84 rfl (lv_at hl 1 rfl) ?_
                    refine g_get (C := RX12) (T := TX12) (N := 29) (ci := 12) (v := .int x342) FC hKn hP i_X12 0 rfl rfl 8 (by decide) b_1107 rfl dX12_advance_85 ?_
                    refine call_V (As := [.int x342]) (rest := []) (wr := []) FC hKn hZ (k_X12_see l g h0 a1 a2 a3 a4 a6 a14 a15 a19 a20 a23 a24 a25 a26 a27 a28 mthrown mtaped msize x342 x236 mtoken mvalue mfaultKind mfaultPlace mgoal mgoalDays mgoalHearer mleastOrder mwordsMany mtape x342 (by omega) (by omega) (by omega) (by omega) (by omega) (by omega) (by omega) (by omega) (by omega) (by omega)) m_yX12_see b_1108 (ci := 12) rfl rfl rfl hP hD hS hA [0, 1] [] rfl (by decide) rfl (by decide) (by decide) rfl hl.1 rfl (Nat.le_of_ble_eq_true rfl) dX12_advance_88 ⟨(Nat.le_of_ble_eq_true rfl), (Nat.le_of_ble_eq_true rfl)⟩ ⟨(Nat.le_of_ble_eq_true rfl), (Nat.le_of_ble_eq_true rfl)⟩ (fun u348 H locs q349 hP hD hS => ?_)
                    obtain ⟨q349_0, q349_1, q349_2⟩ := q349
                    have hP : va_P g.1 vwCl [(h0, .inr (12, [.int mthrown, .ref a1, .ref a2, .ref a3, .ref a4, .int mtaped, .ref a6, .int msize, .int x342, .int x236, .int mtoken, .int mvalue, .int mfaultKind, .int mfaultPlace, .ref a14, .ref a15, .int mgoal, .int mgoalDays, .int mgoalHearer, .ref a19, .ref a20, .int mleastOrder, .int mwordsMany, .ref a23, .ref a24, .ref a25, .ref a26, .ref a27, .ref a28])), (a4, .inl (g.2 1, 900, .inl mtape))] H := hP
                    have hD : va_D A [(h0, .inr (12, [.int mthrown, .ref a1, .ref a2, .ref a3, .ref a4, .int mtaped, .ref a6, .int msize, .int x342, .int x236, .int mtoken, .int mvalue, .int mfaultKind, .int mfaultPlace, .ref a14, .ref a15, .int mgoal, .int mgoalDays, .int mgoalHearer, .ref a19, .ref a20, .int mleastOrder, .int mwordsMany, .ref a23, .ref a24, .ref a25, .ref a26, .ref a27, .ref a28])), (a4, .inl (g.2 1, 900, .inl mtape))] := hD
                    refine W.eq (g2 := F0 m 91 ls [.int (u348.1 0)]) rfl ?_
                    rw [q349_1] at q349_0
                    rw [q349_1] at q349_2
                    refine tp_i (v := seF mtape msize x342) q349_1 ?_
                    have ks350 : x342.toInt = x236.toInt → (seF mtape msize x342).toInt = (seF mtape msize x236).toInt := fun q => by rw [Int32.toInt_inj.mp q]
                    refine lv_i2l (v := (seF mtape msize x342).toInt64) hx hb dX12_advance_91 rfl ?_
                    refine lv_topl (fun z351 e_z351 => ?_)
                    have t_z351 : z351.toInt = (seF mtape msize x342).toInt := by rw [e_z351]; exact Int32.toInt_toInt64 _
                    refine lv_ldc2 hx hb hown (hB _ b_1110) dX12_advance_92 ?_
                    refine lv_ldc2 hx hb hown (hB _ b_1111) dX12_advance_95 ?_
                    refine call_S (As := [.long z351, .long 97, .long 122]) (rest := []) (wr := [(h0, .inr (12, [.int mthrown, .ref a1, .ref a2, .ref a3, .ref a4, .int mtaped, .ref a6, .int msize, .int x342, .int x236, .int mtoken, .int mvalue, .int mfaultKind, .int mfaultPlace, .ref a14, .ref a15, .int mgoal, .int mgoalDays, .int mgoalHearer, .ref a19, .ref a20, .int mleastOrder, .int mwordsMany, .ref a23, .ref a24, .ref a25, .ref a26, .ref a27, .ref a28])), (a4, .inl (g.2 1, 900, .inl mtape))]) FC hKn hZ (k_X12_in l g z351 ((97 : Int64)) ((122 : Int64))) m_yX12_in b_802 hP hD hS hA [] [0, 1] rfl (by decide) rfl (by decide) (by decide) rfl hl.1 rfl (Nat.le_of_ble_eq_true rfl) dX12_advance_98 ⟨(Nat.le_of_ble_eq_true rfl), (Nat.le_of_ble_eq_true rfl)⟩ ⟨(Nat.le_of_ble_eq_true rfl), (Nat.le_of_ble_eq_true rfl)⟩ (fun u352 H locs q353 hP hD hS => ?_)
                    obtain ⟨q353_0, q353_1, q353_2⟩ := q353
                    have hP : va_P g.1 vwCl [(h0, .inr (12, [.int mthrown, .ref a1, .ref a2, .ref a3, .ref a4, .int mtaped, .ref a6, .int msize, .int x342, .int x236, .int mtoken, .int mvalue, .int mfaultKind, .int mfaultPlace, .ref a14, .ref a15, .int mgoal, .int mgoalDays, .int mgoalHearer, .ref a19, .ref a20, .int mleastOrder, .int mwordsMany, .ref a23, .ref a24, .ref a25, .ref a26, .ref a27, .ref a28])), (a4, .inl (g.2 1, 900, .inl mtape))] H := hP
                    have hD : va_D A [(h0, .inr (12, [.int mthrown, .ref a1, .ref a2, .ref a3, .ref a4, .int mtaped, .ref a6, .int msize, .int x342, .int x236, .int mtoken, .int mvalue, .int mfaultKind, .int mfaultPlace, .ref a14, .ref a15, .int mgoal, .int mgoalDays, .int mgoalHearer, .ref a19, .ref a20, .int mleastOrder, .int mwordsMany, .ref a23, .ref a24, .ref a25, .ref a26, .ref a27, .ref a28])), (a4, .inl (g.2 1, 900, .inl mtape))] := hD
                    refine W.eq (g2 := F0 m 101 ls [.int (u352.1 0)]) rfl ?_
                    rcases (show (u352.1 0).toInt = 0 ∨ (u352.1 0).toInt = 1 by omega) with c354 | c354
                    · skip
                      refine lv_if_eq (tgt := 117) hx hb dX12_advance_101 (by decide) (fun c355 => ?_) (fun c355 => ?_)
                      · have c355 := k_eq (a := (u352.1 0).toInt) (b := 0) rfl (by decide) c355
                        refine lv_aload_n hx hb dX12_advance_117 rfl (lv_at hl 1 rfl) ?_
                        refine lv_iconst (v := 1) hx hb dX12_advance_118 (by decide) ?_
                        refine g_put (C := RX12) (T := TX12) (N := 29) (ci := 12) (v := .int 1) FC hKn hP hD hS i_X12 tyX12 tyX12_ok nmX12 0 rfl rfl 10 (by decide) b_1114 rfl rfl rfl (Nat.le_of_ble_eq_true rfl) dX12_advance_119 (fun H locs hP hD hS => ?_)
                        have hP : va_P g.1 vwCl [(h0, .inr (12, [.int mthrown, .ref a1, .ref a2, .ref a3, .ref a4, .int mtaped, .ref a6, .int msize, .int x342, .int x236, .int 1, .int mvalue, .int mfaultKind, .int mfaultPlace, .ref a14, .ref a15, .int mgoal, .int mgoalDays, .int mgoalHearer, .ref a19, .ref a20, .int mleastOrder, .int mwordsMany, .ref a23, .ref a24, .ref a25, .ref a26, .ref a27, .ref a28])), (a4, .inl (g.2 1, 900, .inl mtape))] H := hP
                        have hD : va_D A [(h0, .inr (12, [.int mthrown, .ref a1, .ref a2, .ref a3, .ref a4, .int mtaped, .ref a6, .int msize, .int x342, .int x236, .int 1, .int mvalue, .int mfaultKind, .int mfaultPlace, .ref a14, .ref a15, .int mgoal, .int mgoalDays, .int mgoalHearer, .ref a19, .ref a20, .int mleastOrder, .int mwordsMany, .ref a23, .ref a24, .ref a25, .ref a26, .ref a27, .ref a28])), (a4, .inl (g.2 1, 900, .inl mtape))] := hD
                        refine lv_goto (tgt := 239) hx hb dX12_advance_122 (by decide) ?_
                        have kc1 : (1 : Int32).toInt = 1 := by decide
                        exact rt_v FX ((fun k => match k with | 0 => 0 | 1 => x342 | 2 => x236 | 3 => (1 : Int32) | 4 => mvalue | _ => 0), (fun _ => fun _ => 0), (fun _ => fun _ => 0)) rfl ⟨(show 0 ≤ x342.toInt ∧ x342.toInt ≤ 900 by omega), (show 0 ≤ x236.toInt ∧ x236.toInt ≤ 900 by omega), (show 0 ≤ ((1 : Int32)).toInt ∧ ((1 : Int32)).toInt ≤ 4 by decide), (show 0 ≤ mvalue.toInt ∧ mvalue.toInt ≤ 99999 by omega), (show 5 * mat.toInt - mtoken.toInt ≤ 5 * (x342).toInt - ((1 : Int32)).toInt by omega), (show 1 ≤ mtoken.toInt → 5 * mat.toInt - mtoken.toInt < 5 * (x342).toInt - ((1 : Int32)).toInt by omega)⟩ (hP.sub [0, 1] rfl) (hD.sub [0, 1] (by decide) rfl) hS (Nat.le_of_ble_eq_true rfl) (Nat.le_of_ble_eq_true rfl) dX12_advance_239
                      · have c355 := k_ne (a := (u352.1 0).toInt) (b := 0) rfl (by decide) c355
                        exfalso; omega
                    · have c354_r := q353_2 c354
                      refine lv_if_eq (tgt := 117) hx hb dX12_advance_101 (by decide) (fun c356 => ?_) (fun c356 => ?_)
                      · have c356 := k_eq (a := (u352.1 0).toInt) (b := 0) rfl (by decide) c356
                        exfalso; omega
                      · have c356 := k_ne (a := (u352.1 0).toInt) (b := 0) rfl (by decide) c356
                        refine lv_aload_n hx hb dX12_advance_104 rfl (lv_at hl 1 rfl) ?_
                        refine lv_dup hx hb dX12_advance_105 rfl ?_
                        refine g_get (C := RX12) (T := TX12) (N := 29) (ci := 12) (v := .int x342) FC hKn hP i_X12 0 rfl rfl 8 (by decide) b_1107 rfl dX12_advance_106 ?_
                        refine lv_iconst (v := 1) hx hb dX12_advance_109 (by decide) ?_
                        refine lv_iadd hx hb dX12_advance_110 ?_
                        have kc1 : (1 : Int32).toInt = 1 := by decide
                        refine lv_topi (fun z357 e_z357 => ?_)
                        have t_z357 : z357.toInt = x342.toInt + ((1 : Int32)).toInt := by rw [e_z357]; exact fb_addI (by omega) (by omega)
                        refine g_put (C := RX12) (T := TX12) (N := 29) (ci := 12) (v := .int z357) FC hKn hP hD hS i_X12 tyX12 tyX12_ok nmX12 0 rfl rfl 8 (by decide) b_1107 rfl rfl rfl (Nat.le_of_ble_eq_true rfl) dX12_advance_111 (fun H locs hP hD hS => ?_)
                        have hP : va_P g.1 vwCl [(h0, .inr (12, [.int mthrown, .ref a1, .ref a2, .ref a3, .ref a4, .int mtaped, .ref a6, .int msize, .int z357, .int x236, .int mtoken, .int mvalue, .int mfaultKind, .int mfaultPlace, .ref a14, .ref a15, .int mgoal, .int mgoalDays, .int mgoalHearer, .ref a19, .ref a20, .int mleastOrder, .int mwordsMany, .ref a23, .ref a24, .ref a25, .ref a26, .ref a27, .ref a28])), (a4, .inl (g.2 1, 900, .inl mtape))] H := hP
                        have hD : va_D A [(h0, .inr (12, [.int mthrown, .ref a1, .ref a2, .ref a3, .ref a4, .int mtaped, .ref a6, .int msize, .int z357, .int x236, .int mtoken, .int mvalue, .int mfaultKind, .int mfaultPlace, .ref a14, .ref a15, .int mgoal, .int mgoalDays, .int mgoalHearer, .ref a19, .ref a20, .int mleastOrder, .int mwordsMany, .ref a23, .ref a24, .ref a25, .ref a26, .ref a27, .ref a28])), (a4, .inl (g.2 1, 900, .inl mtape))] := hD
                        refine lv_goto (tgt := 83) hx hb dX12_advance_114 (by decide) ?_
                        exact ih345 z357 _ _ ls (by omega) (by omega) (by omega) hP hD hS (lv_sub hl [0, 1] rfl)
                exact lp344 _ x236 _ _ ls (by omega) (by omega) (Nat.lt_succ_self _) hP hD hS (lv_sub hl [0, 1] rfl)
          · have c251 := k_eq (a := (seF mtape msize x236).toInt) (b := -1) rfl (by decide) c251
            refine lv_aload_n hx hb dX12_advance_61 rfl (lv_at hl 1 rfl) ?_
            refine lv_iconst (v := 0) hx hb dX12_advance_62 (by decide) ?_
            refine g_put (C := RX12) (T := TX12) (N := 29) (ci := 12) (v := .int 0) FC hKn hP hD hS i_X12 tyX12 tyX12_ok nmX12 0 rfl rfl 10 (by decide) b_1114 rfl rfl rfl (Nat.le_of_ble_eq_true rfl) dX12_advance_63 (fun H locs hP hD hS => ?_)
            have hP : va_P g.1 vwCl [(h0, .inr (12, [.int mthrown, .ref a1, .ref a2, .ref a3, .ref a4, .int mtaped, .ref a6, .int msize, .int x236, .int x236, .int 0, .int mvalue, .int mfaultKind, .int mfaultPlace, .ref a14, .ref a15, .int mgoal, .int mgoalDays, .int mgoalHearer, .ref a19, .ref a20, .int mleastOrder, .int mwordsMany, .ref a23, .ref a24, .ref a25, .ref a26, .ref a27, .ref a28])), (a4, .inl (g.2 1, 900, .inl mtape))] H := hP
            have hD : va_D A [(h0, .inr (12, [.int mthrown, .ref a1, .ref a2, .ref a3, .ref a4, .int mtaped, .ref a6, .int msize, .int x236, .int x236, .int 0, .int mvalue, .int mfaultKind, .int mfaultPlace, .ref a14, .ref a15, .int mgoal, .int mgoalDays, .int mgoalHearer, .ref a19, .ref a20, .int mleastOrder, .int mwordsMany, .ref a23, .ref a24, .ref a25, .ref a26, .ref a27, .ref a28])), (a4, .inl (g.2 1, 900, .inl mtape))] := hD
            refine lv_goto (tgt := 239) hx hb dX12_advance_66 (by decide) ?_
            have kc0 : (0 : Int32).toInt = 0 := by decide
            exact rt_v FX ((fun k => match k with | 0 => 0 | 1 => x236 | 2 => x236 | 3 => (0 : Int32) | 4 => mvalue | _ => 0), (fun _ => fun _ => 0), (fun _ => fun _ => 0)) rfl ⟨(show 0 ≤ x236.toInt ∧ x236.toInt ≤ 900 by omega), (show 0 ≤ x236.toInt ∧ x236.toInt ≤ 900 by omega), (show 0 ≤ ((0 : Int32)).toInt ∧ ((0 : Int32)).toInt ≤ 4 by decide), (show 0 ≤ mvalue.toInt ∧ mvalue.toInt ≤ 99999 by omega), (show 5 * mat.toInt - mtoken.toInt ≤ 5 * (x236).toInt - ((0 : Int32)).toInt by omega), (show 1 ≤ mtoken.toInt → 5 * mat.toInt - mtoken.toInt < 5 * (x236).toInt - ((0 : Int32)).toInt by omega)⟩ (hP.sub [0, 1] rfl) (hD.sub [0, 1] (by decide) rfl) hS (Nat.le_of_ble_eq_true rfl) (Nat.le_of_ble_eq_true rfl) dX12_advance_239
        · have c248 := k_eq (a := (seF mtape msize x236).toInt) (b := 10) rfl (by decide) c248
          refine lv_aload_n hx hb dX12_advance_26 rfl (lv_at hl 0 rfl) ?_
          refine lv_dup hx hb dX12_advance_27 rfl ?_
          refine g_get (C := RX12) (T := TX12) (N := 29) (ci := 12) (v := .int x236) FC hKn hP i_X12 0 rfl rfl 8 (by decide) b_1107 rfl dX12_advance_28 ?_
          refine lv_iconst (v := 1) hx hb dX12_advance_31 (by decide) ?_
          refine lv_iadd hx hb dX12_advance_32 ?_
          have kc1 : (1 : Int32).toInt = 1 := by decide
          refine lv_topi (fun z358 e_z358 => ?_)
          have t_z358 : z358.toInt = x236.toInt + ((1 : Int32)).toInt := by rw [e_z358]; exact fb_addI (by omega) (by omega)
          refine g_put (C := RX12) (T := TX12) (N := 29) (ci := 12) (v := .int z358) FC hKn hP hD hS i_X12 tyX12 tyX12_ok nmX12 0 rfl rfl 8 (by decide) b_1107 rfl rfl rfl (Nat.le_of_ble_eq_true rfl) dX12_advance_33 (fun H locs hP hD hS => ?_)
          have hP : va_P g.1 vwCl [(h0, .inr (12, [.int mthrown, .ref a1, .ref a2, .ref a3, .ref a4, .int mtaped, .ref a6, .int msize, .int z358, .int mfrom, .int mtoken, .int mvalue, .int mfaultKind, .int mfaultPlace, .ref a14, .ref a15, .int mgoal, .int mgoalDays, .int mgoalHearer, .ref a19, .ref a20, .int mleastOrder, .int mwordsMany, .ref a23, .ref a24, .ref a25, .ref a26, .ref a27, .ref a28])), (a4, .inl (g.2 1, 900, .inl mtape))] H := hP
          have hD : va_D A [(h0, .inr (12, [.int mthrown, .ref a1, .ref a2, .ref a3, .ref a4, .int mtaped, .ref a6, .int msize, .int z358, .int mfrom, .int mtoken, .int mvalue, .int mfaultKind, .int mfaultPlace, .ref a14, .ref a15, .int mgoal, .int mgoalDays, .int mgoalHearer, .ref a19, .ref a20, .int mleastOrder, .int mwordsMany, .ref a23, .ref a24, .ref a25, .ref a26, .ref a27, .ref a28])), (a4, .inl (g.2 1, 900, .inl mtape))] := hD
          refine lv_goto (tgt := 0) hx hb dX12_advance_36 (by decide) ?_
          exact ih239 z358 _ _ ls (by omega) (by omega) (by omega) hP hD hS (lv_sub hl [0] rfl)
  exact lp238 _ mat _ _ ls (by omega) (by omega) (Nat.lt_succ_self _) hP hD hS (lv_sub hl [0] rfl)
set_option maxRecDepth 100000 in
set_option maxHeartbeats 4000000 in
theorem k_X12_good (l : Launch) (g : GG) (h0 : Nat) (a1 : Nat) (a2 : Nat) (a3 : Nat) (a4 : Nat) (a6 : Nat) (a14 : Nat) (a15 : Nat) (a19 : Nat) (a20 : Nat) (a23 : Nat) (a24 : Nat) (a25 : Nat) (a26 : Nat) (a27 : Nat) (a28 : Nat) (mthrown : Int32) (mtaped : Int32) (msize : Int32) (mat : Int32) (mfrom : Int32) (mtoken : Int32) (mvalue : Int32) (mfaultKind : Int32) (mfaultPlace : Int32) (mgoal : Int32) (mgoalDays : Int32) (mgoalHearer : Int32) (mleastOrder : Int32) (mwordsMany : Int32) (i_mtaped : 0 ≤ mtaped.toInt ∧ mtaped.toInt ≤ 900) (i_msize : 0 ≤ msize.toInt ∧ msize.toInt ≤ 900) (i_mat : 0 ≤ mat.toInt ∧ mat.toInt ≤ 900) (i_mfrom : 0 ≤ mfrom.toInt ∧ mfrom.toInt ≤ 900) (i_mtoken : 0 ≤ mtoken.toInt ∧ mtoken.toInt ≤ 4) (i_mvalue : 0 ≤ mvalue.toInt ∧ mvalue.toInt ≤ 99999) (i_mfaultKind : 0 ≤ mfaultKind.toInt ∧ mfaultKind.toInt ≤ 3) (i_mgoalHearer : 0 ≤ mgoalHearer.toInt ∧ mgoalHearer.toInt ≤ 3) (i_mwordsMany : 0 ≤ mwordsMany.toInt ∧ mwordsMany.toInt ≤ 10) : Ct l g yX12_good cX12_good 1 (some .boolean) { frames := 0, cells := 0, slots := 0, locals := 0 } [.ref h0] [(h0, .inr (12, [.int mthrown, .ref a1, .ref a2, .ref a3, .ref a4, .int mtaped, .ref a6, .int msize, .int mat, .int mfrom, .int mtoken, .int mvalue, .int mfaultKind, .int mfaultPlace, .ref a14, .ref a15, .int mgoal, .int mgoalDays, .int mgoalHearer, .ref a19, .ref a20, .int mleastOrder, .int mwordsMany, .ref a23, .ref a24, .ref a25, .ref a26, .ref a27, .ref a28]))] (S := (Nat → Int32) × (Nat → Nat → Int32) × (Nat → Nat → Int64)) (fun u => some (.int (u.1 0))) (fun u => (0 ≤ (u.1 0).toInt ∧ (u.1 0).toInt ≤ 1) ∧ (((u.1 0).toInt = 1 ∧ mfaultKind.toInt = 0) ∨ ((u.1 0).toInt = 0 ∧ mfaultKind.toInt ≠ 0))) (fun u => [(h0, .inr (12, [.int mthrown, .ref a1, .ref a2, .ref a3, .ref a4, .int mtaped, .ref a6, .int msize, .int mat, .int mfrom, .int mtoken, .int mvalue, .int mfaultKind, .int mfaultPlace, .ref a14, .ref a15, .int mgoal, .int mgoalDays, .int mgoalHearer, .ref a19, .ref a20, .int mleastOrder, .int mwordsMany, .ref a23, .ref a24, .ref a25, .ref a26, .ref a27, .ref a28]))]) := by
  refine Ct.of (by decide) (Nat.le_of_ble_eq_true rfl) ?_
  intro p e s m below meth c A ls FX hP hD hS hl
  obtain ⟨FC, hr, hlk, hKn, hA, hnm, hZ⟩ := id FX
  have FC : CallFix p m c cX12_good 1 s _ BIG RX12 := FC
  obtain ⟨hx, hb, hml, hown, hB⟩ := id FC
  have hl : lv_has ls 1 [(0, .ref h0)] := hl
  refine lv_aload_n hx hb dX12_good_0 rfl (lv_at hl 0 rfl) ?_
  refine g_get (C := RX12) (T := TX12) (N := 29) (ci := 12) (v := .int mfaultKind) FC hKn hP i_X12 0 rfl rfl 12 (by decide) b_886 rfl dX12_good_1 ?_
  refine lv_if_ne (tgt := 11) hx hb dX12_good_4 (by decide) (fun c1 => ?_) (fun c1 => ?_)
  · have c1 := k_ne (a := mfaultKind.toInt) (b := 0) rfl (by decide) c1
    refine lv_iconst (v := 0) hx hb dX12_good_11 (by decide) ?_
    have kc0 : (0 : Int32).toInt = 0 := by decide
    exact rt_z FX rfl ((fun k => match k with | 0 => (0 : Int32) | _ => 0), (fun _ => fun _ => 0), (fun _ => fun _ => 0)) rfl ⟨(show 0 ≤ ((0 : Int32)).toInt ∧ ((0 : Int32)).toInt ≤ 1 by decide), (show (((0 : Int32)).toInt = 1 ∧ mfaultKind.toInt = 0) ∨ (((0 : Int32)).toInt = 0 ∧ mfaultKind.toInt ≠ 0) by omega)⟩ (hP.sub [0] rfl) (hD.sub [0] (by decide) rfl) hS (Nat.le_of_ble_eq_true rfl) (Nat.le_of_ble_eq_true rfl) dX12_good_12
  · have c1 := k_eq (a := mfaultKind.toInt) (b := 0) rfl (by decide) c1
    refine lv_iconst (v := 1) hx hb dX12_good_7 (by decide) ?_
    refine lv_goto (tgt := 12) hx hb dX12_good_8 (by decide) ?_
    have kc1 : (1 : Int32).toInt = 1 := by decide
    exact rt_z FX rfl ((fun k => match k with | 0 => (1 : Int32) | _ => 0), (fun _ => fun _ => 0), (fun _ => fun _ => 0)) rfl ⟨(show 0 ≤ ((1 : Int32)).toInt ∧ ((1 : Int32)).toInt ≤ 1 by decide), (show (((1 : Int32)).toInt = 1 ∧ mfaultKind.toInt = 0) ∨ (((1 : Int32)).toInt = 0 ∧ mfaultKind.toInt ≠ 0) by omega)⟩ (hP.sub [0] rfl) (hD.sub [0] (by decide) rfl) hS (Nat.le_of_ble_eq_true rfl) (Nat.le_of_ble_eq_true rfl) dX12_good_12
set_option maxRecDepth 100000 in
set_option maxHeartbeats 4000000 in
theorem k_X12_errs (l : Launch) (g : GG) (h0 : Nat) (a1 : Nat) (a2 : Nat) (a3 : Nat) (a4 : Nat) (a6 : Nat) (a14 : Nat) (a15 : Nat) (a19 : Nat) (a20 : Nat) (a23 : Nat) (a24 : Nat) (a25 : Nat) (a26 : Nat) (a27 : Nat) (a28 : Nat) (mthrown : Int32) (mtaped : Int32) (msize : Int32) (mat : Int32) (mfrom : Int32) (mtoken : Int32) (mvalue : Int32) (mfaultKind : Int32) (mfaultPlace : Int32) (mgoal : Int32) (mgoalDays : Int32) (mgoalHearer : Int32) (mleastOrder : Int32) (mwordsMany : Int32) (p1 : Int32) (i_mtaped : 0 ≤ mtaped.toInt ∧ mtaped.toInt ≤ 900) (i_msize : 0 ≤ msize.toInt ∧ msize.toInt ≤ 900) (i_mat : 0 ≤ mat.toInt ∧ mat.toInt ≤ 900) (i_mfrom : 0 ≤ mfrom.toInt ∧ mfrom.toInt ≤ 900) (i_mtoken : 0 ≤ mtoken.toInt ∧ mtoken.toInt ≤ 4) (i_mvalue : 0 ≤ mvalue.toInt ∧ mvalue.toInt ≤ 99999) (i_mfaultKind : 0 ≤ mfaultKind.toInt ∧ mfaultKind.toInt ≤ 3) (i_mgoalHearer : 0 ≤ mgoalHearer.toInt ∧ mgoalHearer.toInt ≤ 3) (i_mwordsMany : 0 ≤ mwordsMany.toInt ∧ mwordsMany.toInt ≤ 10) (i_p1 : 1 ≤ p1.toInt ∧ p1.toInt ≤ 3) : Ct l g yX12_errs cX12_errs 2 none { frames := 1, cells := 0, slots := 0, locals := 20 } [.ref h0, .int p1] [(h0, .inr (12, [.int mthrown, .ref a1, .ref a2, .ref a3, .ref a4, .int mtaped, .ref a6, .int msize, .int mat, .int mfrom, .int mtoken, .int mvalue, .int mfaultKind, .int mfaultPlace, .ref a14, .ref a15, .int mgoal, .int mgoalDays, .int mgoalHearer, .ref a19, .ref a20, .int mleastOrder, .int mwordsMany, .ref a23, .ref a24, .ref a25, .ref a26, .ref a27, .ref a28]))] (S := (Nat → Int32) × (Nat → Nat → Int32) × (Nat → Nat → Int64)) (fun _ => none) (fun u => (1 ≤ (u.1 1).toInt ∧ (u.1 1).toInt ≤ 3)) (fun u => [(h0, .inr (12, [.int mthrown, .ref a1, .ref a2, .ref a3, .ref a4, .int mtaped, .ref a6, .int msize, .int mat, .int mfrom, .int mtoken, .int mvalue, .int (u.1 1), .int (u.1 2), .ref a14, .ref a15, .int mgoal, .int mgoalDays, .int mgoalHearer, .ref a19, .ref a20, .int mleastOrder, .int mwordsMany, .ref a23, .ref a24, .ref a25, .ref a26, .ref a27, .ref a28]))]) := by
  refine Ct.of (by decide) (Nat.le_of_ble_eq_true rfl) ?_
  intro p e s m below meth c A ls FX hP hD hS hl
  obtain ⟨FC, hr, hlk, hKn, hA, hnm, hZ⟩ := id FX
  have FC : CallFix p m c cX12_errs 2 s _ BIG RX12 := FC
  obtain ⟨hx, hb, hml, hown, hB⟩ := id FC
  have hl : lv_has ls 2 [(0, .ref h0), (1, .int p1)] := hl
  refine lv_aload_n hx hb dX12_errs_0 rfl (lv_at hl 0 rfl) ?_
  refine call_V (As := []) (rest := []) (wr := []) FC hKn hZ (k_X12_good l g h0 a1 a2 a3 a4 a6 a14 a15 a19 a20 a23 a24 a25 a26 a27 a28 mthrown mtaped msize mat mfrom mtoken mvalue mfaultKind mfaultPlace mgoal mgoalDays mgoalHearer mleastOrder mwordsMany (by omega) (by omega) (by omega) (by omega) (by omega) (by omega) (by omega) (by omega) (by omega)) m_yX12_good b_1117 (ci := 12) rfl rfl rfl hP hD hS hA [0] [] rfl (by decide) rfl (by decide) (by decide) rfl hl.1 rfl (Nat.le_of_ble_eq_true rfl) dX12_errs_1 ⟨(Nat.le_of_ble_eq_true rfl), (Nat.le_of_ble_eq_true rfl)⟩ ⟨(Nat.le_of_ble_eq_true rfl), (Nat.le_of_ble_eq_true rfl)⟩ (fun u1 H locs q2 hP hD hS => ?_)
  obtain ⟨q2_0, q2_1⟩ := q2
  have hP : va_P g.1 vwCl [(h0, .inr (12, [.int mthrown, .ref a1, .ref a2, .ref a3, .ref a4, .int mtaped, .ref a6, .int msize, .int mat, .int mfrom, .int mtoken, .int mvalue, .int mfaultKind, .int mfaultPlace, .ref a14, .ref a15, .int mgoal, .int mgoalDays, .int mgoalHearer, .ref a19, .ref a20, .int mleastOrder, .int mwordsMany, .ref a23, .ref a24, .ref a25, .ref a26, .ref a27, .ref a28]))] H := hP
  have hD : va_D A [(h0, .inr (12, [.int mthrown, .ref a1, .ref a2, .ref a3, .ref a4, .int mtaped, .ref a6, .int msize, .int mat, .int mfrom, .int mtoken, .int mvalue, .int mfaultKind, .int mfaultPlace, .ref a14, .ref a15, .int mgoal, .int mgoalDays, .int mgoalHearer, .ref a19, .ref a20, .int mleastOrder, .int mwordsMany, .ref a23, .ref a24, .ref a25, .ref a26, .ref a27, .ref a28]))] := hD
  refine W.eq (g2 := F0 m 4 ls [.int (u1.1 0)]) rfl ?_
  rcases (show mfaultKind.toInt = 0 ∨ mfaultKind.toInt ≠ 0 by omega) with c3 | c3
  · skip
    refine tp_i (v := 1) (Int32.toInt_inj.mp (show (u1.1 0).toInt = (1 : Int32).toInt by rw [show (1 : Int32).toInt = 1 by decide]; omega)) ?_
    refine lv_if_ne (tgt := 8) hx hb dX12_errs_4 (by decide) (fun _ => ?_) (fun h => absurd h (by decide))
    refine lv_aload_n hx hb dX12_errs_8 rfl (lv_at hl 0 rfl) ?_
    refine lv_iload_n hx hb dX12_errs_9 rfl (lv_at hl 1 rfl) ?_
    refine g_put (C := RX12) (T := TX12) (N := 29) (ci := 12) (v := .int p1) FC hKn hP hD hS i_X12 tyX12 tyX12_ok nmX12 0 rfl rfl 12 (by decide) b_886 rfl rfl rfl (Nat.le_of_ble_eq_true rfl) dX12_errs_10 (fun H locs hP hD hS => ?_)
    have hP : va_P g.1 vwCl [(h0, .inr (12, [.int mthrown, .ref a1, .ref a2, .ref a3, .ref a4, .int mtaped, .ref a6, .int msize, .int mat, .int mfrom, .int mtoken, .int mvalue, .int p1, .int mfaultPlace, .ref a14, .ref a15, .int mgoal, .int mgoalDays, .int mgoalHearer, .ref a19, .ref a20, .int mleastOrder, .int mwordsMany, .ref a23, .ref a24, .ref a25, .ref a26, .ref a27, .ref a28]))] H := hP
    have hD : va_D A [(h0, .inr (12, [.int mthrown, .ref a1, .ref a2, .ref a3, .ref a4, .int mtaped, .ref a6, .int msize, .int mat, .int mfrom, .int mtoken, .int mvalue, .int p1, .int mfaultPlace, .ref a14, .ref a15, .int mgoal, .int mgoalDays, .int mgoalHearer, .ref a19, .ref a20, .int mleastOrder, .int mwordsMany, .ref a23, .ref a24, .ref a25, .ref a26, .ref a27, .ref a28]))] := hD
    refine lv_aload_n hx hb dX12_errs_13 rfl (lv_at hl 0 rfl) ?_
    refine lv_aload_n hx hb dX12_errs_14 rfl (lv_at hl 0 rfl) ?_
    refine g_get (C := RX12) (T := TX12) (N := 29) (ci := 12) (v := .int mfrom) FC hKn hP i_X12 0 rfl rfl 9 (by decide) b_1109 rfl dX12_errs_15 ?_
    refine g_put (C := RX12) (T := TX12) (N := 29) (ci := 12) (v := .int mfrom) FC hKn hP hD hS i_X12 tyX12 tyX12_ok nmX12 0 rfl rfl 13 (by decide) b_885 rfl rfl rfl (Nat.le_of_ble_eq_true rfl) dX12_errs_18 (fun H locs hP hD hS => ?_)
    have hP : va_P g.1 vwCl [(h0, .inr (12, [.int mthrown, .ref a1, .ref a2, .ref a3, .ref a4, .int mtaped, .ref a6, .int msize, .int mat, .int mfrom, .int mtoken, .int mvalue, .int p1, .int mfrom, .ref a14, .ref a15, .int mgoal, .int mgoalDays, .int mgoalHearer, .ref a19, .ref a20, .int mleastOrder, .int mwordsMany, .ref a23, .ref a24, .ref a25, .ref a26, .ref a27, .ref a28]))] H := hP
    have hD : va_D A [(h0, .inr (12, [.int mthrown, .ref a1, .ref a2, .ref a3, .ref a4, .int mtaped, .ref a6, .int msize, .int mat, .int mfrom, .int mtoken, .int mvalue, .int p1, .int mfrom, .ref a14, .ref a15, .int mgoal, .int mgoalDays, .int mgoalHearer, .ref a19, .ref a20, .int mleastOrder, .int mwordsMany, .ref a23, .ref a24, .ref a25, .ref a26, .ref a27, .ref a28]))] := hD
    exact rt_v FX ((fun k => match k with | 0 => 0 | 1 => p1 | 2 => mfrom | _ => 0), (fun _ => fun _ => 0), (fun _ => fun _ => 0)) rfl (show 1 ≤ p1.toInt ∧ p1.toInt ≤ 3 by omega) (hP.sub [0] rfl) (hD.sub [0] (by decide) rfl) hS (Nat.le_of_ble_eq_true rfl) (Nat.le_of_ble_eq_true rfl) dX12_errs_21
  · skip
    refine tp_i (v := 0) (Int32.toInt_inj.mp (show (u1.1 0).toInt = (0 : Int32).toInt by rw [show (0 : Int32).toInt = 0 by decide]; omega)) ?_
    refine lv_if_ne (tgt := 8) hx hb dX12_errs_4 (by decide) (fun h => absurd h (by decide)) (fun _ => ?_)
    exact rt_v FX ((fun k => match k with | 0 => 0 | 1 => mfaultKind | 2 => mfaultPlace | _ => 0), (fun _ => fun _ => 0), (fun _ => fun _ => 0)) rfl (show 1 ≤ mfaultKind.toInt ∧ mfaultKind.toInt ≤ 3 by omega) (hP.sub [0] rfl) (hD.sub [0] (by decide) rfl) hS (Nat.le_of_ble_eq_true rfl) (Nat.le_of_ble_eq_true rfl) dX12_errs_7
