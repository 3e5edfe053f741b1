set_option maxRecDepth 100000 in
set_option maxHeartbeats 4000000 in
theorem k_X12_is (l : Launch) (g : GG) (ii : Nat) (h0 : Nat) (a1 : Nat) (a2 : Nat) (a3 : Nat) (a4 : Nat) (a6 : Nat) (a14 : Nat) (a15 : Nat) (a19 : Nat) (a20 : Nat) (a23 : Nat) (a24 : Nat) (a25 : Nat) (a26 : Nat) (a27 : Nat) (a28 : Nat) (mthrown : Int32) (mtaped : Int32) (msize : Int32) (mat : Int32) (mfrom : Int32) (mtoken : Int32) (mvalue : Int32) (mfaultKind : Int32) (mfaultPlace : Int32) (mgoal : Int32) (mgoalDays : Int32) (mgoalHearer : Int32) (mleastOrder : Int32) (mwordsMany : Int32) (mtape : Nat → Int32) (i_mtaped : 0 ≤ mtaped.toInt ∧ mtaped.toInt ≤ 900) (i_msize : 0 ≤ msize.toInt ∧ msize.toInt ≤ 900) (i_mat : 0 ≤ mat.toInt ∧ mat.toInt ≤ 900) (i_mfrom : 0 ≤ mfrom.toInt ∧ mfrom.toInt ≤ 900) (i_mtoken : 0 ≤ mtoken.toInt ∧ mtoken.toInt ≤ 4) (i_mvalue : 0 ≤ mvalue.toInt ∧ mvalue.toInt ≤ 99999) (i_mfaultKind : 0 ≤ mfaultKind.toInt ∧ mfaultKind.toInt ≤ 3) (i_mgoalHearer : 0 ≤ mgoalHearer.toInt ∧ mgoalHearer.toInt ≤ 3) (i_mwordsMany : 0 ≤ mwordsMany.toInt ∧ mwordsMany.toInt ≤ 10) (hi : ii < 36) : Ct l g yX12_is cX12_is 4 (some .boolean) { frames := 4, cells := 0, slots := 0, locals := 85 } [.ref h0, .ref (sa g ii)] [(h0, .inr (12, [.int mthrown, .ref a1, .ref a2, .ref a3, .ref a4, .int mtaped, .ref a6, .int msize, .int mat, .int mfrom, .int mtoken, .int mvalue, .int mfaultKind, .int mfaultPlace, .ref a14, .ref a15, .int mgoal, .int mgoalDays, .int mgoalHearer, .ref a19, .ref a20, .int mleastOrder, .int mwordsMany, .ref a23, .ref a24, .ref a25, .ref a26, .ref a27, .ref a28])), (a4, .inl (g.2 1, 900, .inl mtape))] (S := (Nat → Int32) × (Nat → Nat → Int32) × (Nat → Nat → Int64)) (fun u => some (.int (u.1 0))) (fun u => (0 ≤ (u.1 0).toInt ∧ (u.1 0).toInt ≤ 1) ∧ (u.1 0 = isF mfaultKind mtoken mat mfrom mtape ii) ∧ ((u.1 0).toInt = 1 → mfaultKind.toInt = 0 ∧ mtoken.toInt = 1)) (fun u => [(h0, .inr (12, [.int mthrown, .ref a1, .ref a2, .ref a3, .ref a4, .int mtaped, .ref a6, .int msize, .int mat, .int mfrom, .int mtoken, .int mvalue, .int mfaultKind, .int mfaultPlace, .ref a14, .ref a15, .int mgoal, .int mgoalDays, .int mgoalHearer, .ref a19, .ref a20, .int mleastOrder, .int mwordsMany, .ref a23, .ref a24, .ref a25, .ref a26, .ref a27, .ref a28])), (a4, .inl (g.2 1, 900, .inl mtape))]) := by
  refine Ct.of (by decide) (Nat.le_of_ble_eq_true rfl) ?_
  intro p e s m below meth c A ls FX hP hD hS hl
  obtain ⟨FC, hr, hlk, hKn, hA, hnm, hZ⟩ := id FX
  have FC : CallFix p m c cX12_is 4 s _ BIG RX12 := FC
  obtain ⟨hx, hb, hml, hown, hB⟩ := id FC
  have hl : lv_has ls 4 [(0, .ref h0), (1, .ref (sa g ii))] := hl
  have hsl := sl_b hi
  refine lv_aload_n hx hb dX12_is_0 rfl (lv_at hl 0 rfl) ?_
  refine call_V (As := []) (rest := []) (wr := [(a4, .inl (g.2 1, 900, .inl mtape))]) FC hKn hZ (k_X12_good l g h0 a1 a2 a3 a4 a6 a14 a15 a19 a20 a23 a24 a25 a26 a27 a28 mthrown mtaped msize mat mfrom mtoken mvalue mfaultKind mfaultPlace mgoal mgoalDays mgoalHearer mleastOrder mwordsMany (by omega) (by omega) (by omega) (by omega) (by omega) (by omega) (by omega) (by omega) (by omega)) m_yX12_good b_1117 (ci := 12) rfl rfl rfl hP hD hS hA [0] [1] rfl (by decide) rfl (by decide) (by decide) rfl hl.1 rfl (Nat.le_of_ble_eq_true rfl) dX12_is_1 ⟨(Nat.le_of_ble_eq_true rfl), (Nat.le_of_ble_eq_true rfl)⟩ ⟨(Nat.le_of_ble_eq_true rfl), (Nat.le_of_ble_eq_true rfl)⟩ (fun u1 H locs q2 hP hD hS => ?_)
  obtain ⟨q2_0, q2_1⟩ := q2
  have hP : va_P g.1 vwCl [(a4, .inl (g.2 1, 900, .inl mtape)), (h0, .inr (12, [.int mthrown, .ref a1, .ref a2, .ref a3, .ref a4, .int mtaped, .ref a6, .int msize, .int mat, .int mfrom, .int mtoken, .int mvalue, .int mfaultKind, .int mfaultPlace, .ref a14, .ref a15, .int mgoal, .int mgoalDays, .int mgoalHearer, .ref a19, .ref a20, .int mleastOrder, .int mwordsMany, .ref a23, .ref a24, .ref a25, .ref a26, .ref a27, .ref a28]))] H := hP
  have hD : va_D A [(a4, .inl (g.2 1, 900, .inl mtape)), (h0, .inr (12, [.int mthrown, .ref a1, .ref a2, .ref a3, .ref a4, .int mtaped, .ref a6, .int msize, .int mat, .int mfrom, .int mtoken, .int mvalue, .int mfaultKind, .int mfaultPlace, .ref a14, .ref a15, .int mgoal, .int mgoalDays, .int mgoalHearer, .ref a19, .ref a20, .int mleastOrder, .int mwordsMany, .ref a23, .ref a24, .ref a25, .ref a26, .ref a27, .ref a28]))] := hD
  refine W.eq (g2 := F0 m 4 ls [.int (u1.1 0)]) rfl ?_
  rcases (show mfaultKind.toInt = 0 ∨ mfaultKind.toInt ≠ 0 by omega) with c3 | c3
  · skip
    refine tp_i (v := 1) (Int32.toInt_inj.mp (show (u1.1 0).toInt = (1 : Int32).toInt by rw [show (1 : Int32).toInt = 1 by decide]; omega)) ?_
    refine lv_if_eq (tgt := 35) hx hb dX12_is_4 (by decide) (fun h => absurd h (by decide)) (fun _ => ?_)
    refine lv_aload_n hx hb dX12_is_7 rfl (lv_at hl 0 rfl) ?_
    refine g_get (C := RX12) (T := TX12) (N := 29) (ci := 12) (v := .int mtoken) FC hKn hP i_X12 1 rfl rfl 10 (by decide) b_1114 rfl dX12_is_8 ?_
    refine lv_iconst (v := 1) hx hb dX12_is_11 (by decide) ?_
    refine lv_icmp_ne (tgt := 35) hx hb dX12_is_12 (by decide) (fun c4 => ?_) (fun c4 => ?_)
    · have c4 := k_ne (a := mtoken.toInt) (b := 1) rfl (by decide) c4
      refine lv_iconst (v := 0) hx hb dX12_is_35 (by decide) ?_
      refine lv_istore_n (lv' := [(2, .int 0), (0, .ref h0), (1, .ref (sa g ii))]) hx hb dX12_is_36 rfl hl (by decide) rfl (fun ls hl => ?_)
      refine lv_iconst (v := 0) hx hb dX12_is_37 (by decide) ?_
      refine lv_istore_n (lv' := [(3, .int 0), (2, .int 0), (0, .ref h0), (1, .ref (sa g ii))]) hx hb dX12_is_38 rfl hl (by decide) rfl (fun ls hl => ?_)
      have kc0 : (0 : Int32).toInt = 0 := by decide
      have kc1 : (1 : Int32).toInt = 1 := by decide
      have lp10 : ∀ (n12 : Nat)  (H : Heap) (locs : List Loc) (ls : Array Slot), isL ((0 : Int32)) ((0 : Int32)).toInt mfaultKind mtoken mat mfrom mtape ii → ((0 : Int32)).toInt ≤ (sl ii).toInt → 0 < n12 → va_P g.1 vwCl [(a4, .inl (g.2 1, 900, .inl mtape)), (h0, .inr (12, [.int mthrown, .ref a1, .ref a2, .ref a3, .ref a4, .int mtaped, .ref a6, .int msize, .int mat, .int mfrom, .int mtoken, .int mvalue, .int mfaultKind, .int mfaultPlace, .ref a14, .ref a15, .int mgoal, .int mgoalDays, .int mgoalHearer, .ref a19, .ref a20, .int mleastOrder, .int mwordsMany, .ref a23, .ref a24, .ref a25, .ref a26, .ref a27, .ref a28]))] H → va_D A [(a4, .inl (g.2 1, 900, .inl mtape)), (h0, .inr (12, [.int mthrown, .ref a1, .ref a2, .ref a3, .ref a4, .int mtaped, .ref a6, .int msize, .int mat, .int mfrom, .int mtoken, .int mvalue, .int mfaultKind, .int mfaultPlace, .ref a14, .ref a15, .int mgoal, .int mgoalDays, .int mgoalHearer, .ref a19, .ref a20, .int mleastOrder, .int mwordsMany, .ref a23, .ref a24, .ref a25, .ref a26, .ref a27, .ref a28]))] → va_S A s.heap H locs → lv_has ls 4 [(3, .int 0), (2, .int 0), (0, .ref h0), (1, .ref (sa g ii))] → W p l e { frames := 4, cells := 0, slots := 0, locals := 85 } s m ([.ref h0, .ref (sa g ii)].toArray) below meth c H locs 0 0 (MQ below (QX (S := (Nat → Int32) × (Nat → Nat → Int32) × (Nat → Nat → Int64)) (fun u => some (.int (u.1 0))) (fun u => (0 ≤ (u.1 0).toInt ∧ (u.1 0).toInt ≤ 1) ∧ (u.1 0 = isF mfaultKind mtoken mat mfrom mtape ii) ∧ ((u.1 0).toInt = 1 → mfaultKind.toInt = 0 ∧ mtoken.toInt = 1)) g (fun u => [(h0, .inr (12, [.int mthrown, .ref a1, .ref a2, .ref a3, .ref a4, .int mtaped, .ref a6, .int msize, .int mat, .int mfrom, .int mtoken, .int mvalue, .int mfaultKind, .int mfaultPlace, .ref a14, .ref a15, .int mgoal, .int mgoalDays, .int mgoalHearer, .ref a19, .ref a20, .int mleastOrder, .int mwordsMany, .ref a23, .ref a24, .ref a25, .ref a26, .ref a27, .ref a28])), (a4, .inl (g.2 1, 900, .inl mtape))]) A) ([.ref h0, .ref (sa g ii)].toArray) s 0 0 A) (F0 m 39 ls []) := by
        intro n12
        induction n12 with
        | zero =>
          intro  H locs ls hi8 hi9 hn13
          exact absurd hn13 (Nat.not_lt_zero _)
        | succ n12 ih11 =>
          intro  H locs ls hi8 hi9 hn13 hP hD hS hl
          refine lv_iload_n hx hb dX12_is_39 rfl (lv_at hl 0 rfl) ?_
          refine lv_aload_n hx hb dX12_is_40 rfl (lv_at hl 3 rfl) ?_
          refine call_VS (As := []) (rest := [.int 0]) (wr := [(a4, .inl (g.2 1, 900, .inl mtape)), (h0, .inr (12, [.int mthrown, .ref a1, .ref a2, .ref a3, .ref a4, .int mtaped, .ref a6, .int msize, .int mat, .int mfrom, .int mtoken, .int mvalue, .int mfaultKind, .int mfaultPlace, .ref a14, .ref a15, .int mgoal, .int mgoalDays, .int mgoalHearer, .ref a19, .ref a20, .int mleastOrder, .int mwordsMany, .ref a23, .ref a24, .ref a25, .ref a26, .ref a27, .ref a28]))]) FC hKn hZ (k_J0_length_8abf5 l g ii (by omega)) m_yJ0_length_8abf5 b_1124 (hZ.recv hS (by omega)) hP hD hS hA [] [0, 1] rfl (by decide) rfl (by decide) (by decide) rfl hl.1 rfl (Nat.le_of_ble_eq_true rfl) dX12_is_41 ⟨(Nat.le_of_ble_eq_true rfl), (Nat.le_of_ble_eq_true rfl)⟩ ⟨(Nat.le_of_ble_eq_true rfl), (Nat.le_of_ble_eq_true rfl)⟩ (fun u14 H locs q15 hP hD hS => ?_)
          obtain ⟨q15_0, q15_1⟩ := q15
          have hP : va_P g.1 vwCl [(a4, .inl (g.2 1, 900, .inl mtape)), (h0, .inr (12, [.int mthrown, .ref a1, .ref a2, .ref a3, .ref a4, .int mtaped, .ref a6, .int msize, .int mat, .int mfrom, .int mtoken, .int mvalue, .int mfaultKind, .int mfaultPlace, .ref a14, .ref a15, .int mgoal, .int mgoalDays, .int mgoalHearer, .ref a19, .ref a20, .int mleastOrder, .int mwordsMany, .ref a23, .ref a24, .ref a25, .ref a26, .ref a27, .ref a28]))] H := hP
          have hD : va_D A [(a4, .inl (g.2 1, 900, .inl mtape)), (h0, .inr (12, [.int mthrown, .ref a1, .ref a2, .ref a3, .ref a4, .int mtaped, .ref a6, .int msize, .int mat, .int mfrom, .int mtoken, .int mvalue, .int mfaultKind, .int mfaultPlace, .ref a14, .ref a15, .int mgoal, .int mgoalDays, .int mgoalHearer, .ref a19, .ref a20, .int mleastOrder, .int mwordsMany, .ref a23, .ref a24, .ref a25, .ref a26, .ref a27, .ref a28]))] := hD
          refine W.eq (g2 := F0 m 44 ls [.int (u14.1 0), .int 0]) rfl ?_
          refine lv_icmp_ge (tgt := 82) hx hb dX12_is_44 (by decide) (fun c16 => ?_) (fun c16 => ?_)
          · have c16 := k_le (a := (u14.1 0).toInt) (b := 0) rfl (by decide) c16
            exfalso; omega
          · have c16 := k_nle (a := (u14.1 0).toInt) (b := 0) rfl (by decide) c16
            refine lv_iload_n hx hb dX12_is_47 rfl (lv_at hl 1 rfl) ?_
            refine lv_if_eq (tgt := 82) hx hb dX12_is_48 (by decide) (fun _ => ?_) (fun h => absurd h (by decide))
            refine lv_iload_n hx hb dX12_is_82 rfl (lv_at hl 1 rfl) ?_
            exact rt_z FX rfl ((fun k => match k with | 0 => (0 : Int32) | _ => 0), (fun _ => fun _ => 0), (fun _ => fun _ => 0)) rfl ⟨(show 0 ≤ ((0 : Int32)).toInt ∧ ((0 : Int32)).toInt ≤ 1 by decide), (show (0 : Int32) = isF mfaultKind mtoken mat mfrom mtape ii from (by first | exact is_1 (k := 0) hi8 (by omega) | exact is_0 hi8 (by omega))), (show ((0 : Int32)).toInt = 1 → mfaultKind.toInt = 0 ∧ mtoken.toInt = 1 from (fun q => (isF_b _ _ _ _ mtape ii).2 (by rw [← show ((0 : Int32)) = isF mfaultKind mtoken mat mfrom mtape ii from (by first | exact is_1 (k := 0) hi8 (by omega) | exact is_0 hi8 (by omega))]; exact q)))⟩ (hP.sub [1, 0] rfl) (hD.sub [1, 0] (by decide) rfl) hS (Nat.le_of_ble_eq_true rfl) (Nat.le_of_ble_eq_true rfl) dX12_is_83
      exact lp10 _  _ _ ls (is_n (fun q => by obtain ⟨q1, q2, q3⟩ := q; omega)) (by omega) (Nat.lt_succ_self _) hP hD hS (lv_sub hl [0, 1, 2, 3] rfl)
    · have c4 := k_eq (a := mtoken.toInt) (b := 1) rfl (by decide) c4
      refine lv_aload_n hx hb dX12_is_15 rfl (lv_at hl 0 rfl) ?_
      refine g_get (C := RX12) (T := TX12) (N := 29) (ci := 12) (v := .int mat) FC hKn hP i_X12 1 rfl rfl 8 (by decide) b_1107 rfl dX12_is_16 ?_
      refine lv_aload_n hx hb dX12_is_19 rfl (lv_at hl 0 rfl) ?_
      refine g_get (C := RX12) (T := TX12) (N := 29) (ci := 12) (v := .int mfrom) FC hKn hP i_X12 1 rfl rfl 9 (by decide) b_1109 rfl dX12_is_20 ?_
      refine lv_isub hx hb dX12_is_23 ?_
      refine lv_topi (fun z17 e_z17 => ?_)
      have t_z17 : z17.toInt = mat.toInt - mfrom.toInt := by rw [e_z17]; exact fb_subI (by omega) (by omega)
      refine lv_aload_n hx hb dX12_is_24 rfl (lv_at hl 1 rfl) ?_
      refine call_VS (As := []) (rest := [.int z17]) (wr := [(a4, .inl (g.2 1, 900, .inl mtape)), (h0, .inr (12, [.int mthrown, .ref a1, .ref a2, .ref a3, .ref a4, .int mtaped, .ref a6, .int msize, .int mat, .int mfrom, .int mtoken, .int mvalue, .int mfaultKind, .int mfaultPlace, .ref a14, .ref a15, .int mgoal, .int mgoalDays, .int mgoalHearer, .ref a19, .ref a20, .int mleastOrder, .int mwordsMany, .ref a23, .ref a24, .ref a25, .ref a26, .ref a27, .ref a28]))]) FC hKn hZ (k_J0_length_8abf5 l g ii (by omega)) m_yJ0_length_8abf5 b_1124 (hZ.recv hS (by omega)) hP hD hS hA [] [0, 1] rfl (by decide) rfl (by decide) (by decide) rfl hl.1 rfl (Nat.le_of_ble_eq_true rfl) dX12_is_25 ⟨(Nat.le_of_ble_eq_true rfl), (Nat.le_of_ble_eq_true rfl)⟩ ⟨(Nat.le_of_ble_eq_true rfl), (Nat.le_of_ble_eq_true rfl)⟩ (fun u18 H locs q19 hP hD hS => ?_)
      obtain ⟨q19_0, q19_1⟩ := q19
      have hP : va_P g.1 vwCl [(a4, .inl (g.2 1, 900, .inl mtape)), (h0, .inr (12, [.int mthrown, .ref a1, .ref a2, .ref a3, .ref a4, .int mtaped, .ref a6, .int msize, .int mat, .int mfrom, .int mtoken, .int mvalue, .int mfaultKind, .int mfaultPlace, .ref a14, .ref a15, .int mgoal, .int mgoalDays, .int mgoalHearer, .ref a19, .ref a20, .int mleastOrder, .int mwordsMany, .ref a23, .ref a24, .ref a25, .ref a26, .ref a27, .ref a28]))] H := hP
      have hD : va_D A [(a4, .inl (g.2 1, 900, .inl mtape)), (h0, .inr (12, [.int mthrown, .ref a1, .ref a2, .ref a3, .ref a4, .int mtaped, .ref a6, .int msize, .int mat, .int mfrom, .int mtoken, .int mvalue, .int mfaultKind, .int mfaultPlace, .ref a14, .ref a15, .int mgoal, .int mgoalDays, .int mgoalHearer, .ref a19, .ref a20, .int mleastOrder, .int mwordsMany, .ref a23, .ref a24, .ref a25, .ref a26, .ref a27, .ref a28]))] := hD
      refine W.eq (g2 := F0 m 28 ls [.int (u18.1 0), .int z17]) rfl ?_
      refine lv_icmp_ne (tgt := 35) hx hb dX12_is_28 (by decide) (fun c20 => ?_) (fun c20 => ?_)
      · have c20 := k_ne (a := z17.toInt) (b := (u18.1 0).toInt) rfl rfl c20
        refine lv_iconst (v := 0) hx hb dX12_is_35 (by decide) ?_
        refine lv_istore_n (lv' := [(2, .int 0), (0, .ref h0), (1, .ref (sa g ii))]) hx hb dX12_is_36 rfl hl (by decide) rfl (fun ls hl => ?_)
        refine lv_iconst (v := 0) hx hb dX12_is_37 (by decide) ?_
        refine lv_istore_n (lv' := [(3, .int 0), (2, .int 0), (0, .ref h0), (1, .ref (sa g ii))]) hx hb dX12_is_38 rfl hl (by decide) rfl (fun ls hl => ?_)
        have kc0 : (0 : Int32).toInt = 0 := by decide
        have kc1 : (1 : Int32).toInt = 1 := by decide
        have lp26 : ∀ (n28 : Nat)  (H : Heap) (locs : List Loc) (ls : Array Slot), isL ((0 : Int32)) ((0 : Int32)).toInt mfaultKind mtoken mat mfrom mtape ii → ((0 : Int32)).toInt ≤ (sl ii).toInt → 0 < n28 → va_P g.1 vwCl [(a4, .inl (g.2 1, 900, .inl mtape)), (h0, .inr (12, [.int mthrown, .ref a1, .ref a2, .ref a3, .ref a4, .int mtaped, .ref a6, .int msize, .int mat, .int mfrom, .int mtoken, .int mvalue, .int mfaultKind, .int mfaultPlace, .ref a14, .ref a15, .int mgoal, .int mgoalDays, .int mgoalHearer, .ref a19, .ref a20, .int mleastOrder, .int mwordsMany, .ref a23, .ref a24, .ref a25, .ref a26, .ref a27, .ref a28]))] H → va_D A [(a4, .inl (g.2 1, 900, .inl mtape)), (h0, .inr (12, [.int mthrown, .ref a1, .ref a2, .ref a3, .ref a4, .int mtaped, .ref a6, .int msize, .int mat, .int mfrom, .int mtoken, .int mvalue, .int mfaultKind, .int mfaultPlace, .ref a14, .ref a15, .int mgoal, .int mgoalDays, .int mgoalHearer, .ref a19, .ref a20, .int mleastOrder, .int mwordsMany, .ref a23, .ref a24, .ref a25, .ref a26, .ref a27, .ref a28]))] → va_S A s.heap H locs → lv_has ls 4 [(3, .int 0), (2, .int 0), (0, .ref h0), (1, .ref (sa g ii))] → W p l e { frames := 4, cells := 0, slots := 0, locals := 85 } s m ([.ref h0, .ref (sa g ii)].toArray) below meth c H locs 0 0 (MQ below (QX (S := (Nat → Int32) × (Nat → Nat → Int32) × (Nat → Nat → Int64)) (fun u => some (.int (u.1 0))) (fun u => (0 ≤ (u.1 0).toInt ∧ (u.1 0).toInt ≤ 1) ∧ (u.1 0 = isF mfaultKind mtoken mat mfrom mtape ii) ∧ ((u.1 0).toInt = 1 → mfaultKind.toInt = 0 ∧ mtoken.toInt = 1)) g (fun u => [(h0, .inr (12, [.int mthrown, .ref a1, .ref a2, .ref a3, .ref a4, .int mtaped, .ref a6, .int msize, .int mat, .int mfrom, .int mtoken, .int mvalue, .int mfaultKind, .int mfaultPlace, .ref a14, .ref a15, .int mgoal, .int mgoalDays, .int mgoalHearer, .ref a19, .ref a20, .int mleastOrder, .int mwordsMany, .ref a23, .ref a24, .ref a25, .ref a26, .ref a27, .ref a28])), (a4, .inl (g.2 1, 900, .inl mtape))]) A) ([.ref h0, .ref (sa g ii)].toArray) s 0 0 A) (F0 m 39 ls []) := by
          intro n28
          induction n28 with
          | zero =>
            intro  H locs ls hi24 hi25 hn29
            exact absurd hn29 (Nat.not_lt_zero _)
          | succ n28 ih27 =>
            intro  H locs ls hi24 hi25 hn29 hP hD hS hl
            refine lv_iload_n hx hb dX12_is_39 rfl (lv_at hl 0 rfl) ?_
            refine lv_aload_n hx hb dX12_is_40 rfl (lv_at hl 3 rfl) ?_
            refine call_VS (As := []) (rest := [.int 0]) (wr := [(a4, .inl (g.2 1, 900, .inl mtape)), (h0, .inr (12, [.int mthrown, .ref a1, .ref a2, .ref a3, .ref a4, .int mtaped, .ref a6, .int msize, .int mat, .int mfrom, .int mtoken, .int mvalue, .int mfaultKind, .int mfaultPlace, .ref a14, .ref a15, .int mgoal, .int mgoalDays, .int mgoalHearer, .ref a19, .ref a20, .int mleastOrder, .int mwordsMany, .ref a23, .ref a24, .ref a25, .ref a26, .ref a27, .ref a28]))]) FC hKn hZ (k_J0_length_8abf5 l g ii (by omega)) m_yJ0_length_8abf5 b_1124 (hZ.recv hS (by omega)) hP hD hS hA [] [0, 1] rfl (by decide) rfl (by decide) (by decide) rfl hl.1 rfl (Nat.le_of_ble_eq_true rfl) dX12_is_41 ⟨(Nat.le_of_ble_eq_true rfl), (Nat.le_of_ble_eq_true rfl)⟩ ⟨(Nat.le_of_ble_eq_true rfl), (Nat.le_of_ble_eq_true rfl)⟩ (fun u30 H locs q31 hP hD hS => ?_)
            obtain ⟨q31_0, q31_1⟩ := q31
            have hP : va_P g.1 vwCl [(a4, .inl (g.2 1, 900, .inl mtape)), (h0, .inr (12, [.int mthrown, .ref a1, .ref a2, .ref a3, .ref a4, .int mtaped, .ref a6, .int msize, .int mat, .int mfrom, .int mtoken, .int mvalue, .int mfaultKind, .int mfaultPlace, .ref a14, .ref a15, .int mgoal, .int mgoalDays, .int mgoalHearer, .ref a19, .ref a20, .int mleastOrder, .int mwordsMany, .ref a23, .ref a24, .ref a25, .ref a26, .ref a27, .ref a28]))] H := hP
            have hD : va_D A [(a4, .inl (g.2 1, 900, .inl mtape)), (h0, .inr (12, [.int mthrown, .ref a1, .ref a2, .ref a3, .ref a4, .int mtaped, .ref a6, .int msize, .int mat, .int mfrom, .int mtoken, .int mvalue, .int mfaultKind, .int mfaultPlace, .ref a14, .ref a15, .int mgoal, .int mgoalDays, .int mgoalHearer, .ref a19, .ref a20, .int mleastOrder, .int mwordsMany, .ref a23, .ref a24, .ref a25, .ref a26, .ref a27, .ref a28]))] := hD
            refine W.eq (g2 := F0 m 44 ls [.int (u30.1 0), .int 0]) rfl ?_
            refine lv_icmp_ge (tgt := 82) hx hb dX12_is_44 (by decide) (fun c32 => ?_) (fun c32 => ?_)
            · have c32 := k_le (a := (u30.1 0).toInt) (b := 0) rfl (by decide) c32
              exfalso; omega
            · have c32 := k_nle (a := (u30.1 0).toInt) (b := 0) rfl (by decide) c32
              refine lv_iload_n hx hb dX12_is_47 rfl (lv_at hl 1 rfl) ?_
              refine lv_if_eq (tgt := 82) hx hb dX12_is_48 (by decide) (fun _ => ?_) (fun h => absurd h (by decide))
              refine lv_iload_n hx hb dX12_is_82 rfl (lv_at hl 1 rfl) ?_
              exact rt_z FX rfl ((fun k => match k with | 0 => (0 : Int32) | _ => 0), (fun _ => fun _ => 0), (fun _ => fun _ => 0)) rfl ⟨(show 0 ≤ ((0 : Int32)).toInt ∧ ((0 : Int32)).toInt ≤ 1 by decide), (show (0 : Int32) = isF mfaultKind mtoken mat mfrom mtape ii from (by first | exact is_1 (k := 0) hi24 (by omega) | exact is_0 hi24 (by omega))), (show ((0 : Int32)).toInt = 1 → mfaultKind.toInt = 0 ∧ mtoken.toInt = 1 from (fun q => (isF_b _ _ _ _ mtape ii).2 (by rw [← show ((0 : Int32)) = isF mfaultKind mtoken mat mfrom mtape ii from (by first | exact is_1 (k := 0) hi24 (by omega) | exact is_0 hi24 (by omega))]; exact q)))⟩ (hP.sub [1, 0] rfl) (hD.sub [1, 0] (by decide) rfl) hS (Nat.le_of_ble_eq_true rfl) (Nat.le_of_ble_eq_true rfl) dX12_is_83
        exact lp26 _  _ _ ls (is_n (fun q => by obtain ⟨q1, q2, q3⟩ := q; omega)) (by omega) (Nat.lt_succ_self _) hP hD hS (lv_sub hl [0, 1, 2, 3] rfl)
      · have c20 := k_eq (a := z17.toInt) (b := (u18.1 0).toInt) rfl rfl c20
        refine lv_iconst (v := 1) hx hb dX12_is_31 (by decide) ?_
        refine lv_goto (tgt := 36) hx hb dX12_is_32 (by decide) ?_
        refine lv_istore_n (lv' := [(2, .int 1), (0, .ref h0), (1, .ref (sa g ii))]) hx hb dX12_is_36 rfl hl (by decide) rfl (fun ls hl => ?_)
        refine lv_iconst (v := 0) hx hb dX12_is_37 (by decide) ?_
        refine lv_istore_n (lv' := [(3, .int 0), (2, .int 1), (0, .ref h0), (1, .ref (sa g ii))]) hx hb dX12_is_38 rfl hl (by decide) rfl (fun ls hl => ?_)
        have kc0 : (0 : Int32).toInt = 0 := by decide
        have kc1 : (1 : Int32).toInt = 1 := by decide
        have lp136 : ∀ (n138 : Nat) (x132 : Int32) (x133 : Int32) (H : Heap) (locs : List Loc) (ls : Array Slot), 0 ≤ x132.toInt ∧ x132.toInt ≤ 7 → 0 ≤ x133.toInt ∧ x133.toInt ≤ 1 → isL x133 x132.toInt mfaultKind mtoken mat mfrom mtape ii → x132.toInt ≤ (sl ii).toInt → (7 - x132.toInt).toNat < n138 → va_P g.1 vwCl [(a4, .inl (g.2 1, 900, .inl mtape)), (h0, .inr (12, [.int mthrown, .ref a1, .ref a2, .ref a3, .ref a4, .int mtaped, .ref a6, .int msize, .int mat, .int mfrom, .int mtoken, .int mvalue, .int mfaultKind, .int mfaultPlace, .ref a14, .ref a15, .int mgoal, .int mgoalDays, .int mgoalHearer, .ref a19, .ref a20, .int mleastOrder, .int mwordsMany, .ref a23, .ref a24, .ref a25, .ref a26, .ref a27, .ref a28]))] H → va_D A [(a4, .inl (g.2 1, 900, .inl mtape)), (h0, .inr (12, [.int mthrown, .ref a1, .ref a2, .ref a3, .ref a4, .int mtaped, .ref a6, .int msize, .int mat, .int mfrom, .int mtoken, .int mvalue, .int mfaultKind, .int mfaultPlace, .ref a14, .ref a15, .int mgoal, .int mgoalDays, .int mgoalHearer, .ref a19, .ref a20, .int mleastOrder, .int mwordsMany, .ref a23, .ref a24, .ref a25, .ref a26, .ref a27, .ref a28]))] → va_S A s.heap H locs → lv_has ls 4 [(3, .int x132), (2, .int x133), (0, .ref h0), (1, .ref (sa g ii))] → W p l e { frames := 4, cells := 0, slots := 0, locals := 85 } s m ([.ref h0, .ref (sa g ii)].toArray) below meth c H locs 0 0 (MQ below (QX (S := (Nat → Int32) × (Nat → Nat → Int32) × (Nat → Nat → Int64)) (fun u => some (.int (u.1 0))) (fun u => (0 ≤ (u.1 0).toInt ∧ (u.1 0).toInt ≤ 1) ∧ (u.1 0 = isF mfaultKind mtoken mat mfrom mtape ii) ∧ ((u.1 0).toInt = 1 → mfaultKind.toInt = 0 ∧ mtoken.toInt = 1)) g (fun u => [(h0, .inr (12, [.int mthrown, .ref a1, .ref a2, .ref a3, .ref a4, .int mtaped, .ref a6, .int msize, .int mat, .int mfrom, .int mtoken, .int mvalue, .int mfaultKind, .int mfaultPlace, .ref a14, .ref a15, .int mgoal, .int mgoalDays, .int mgoalHearer, .ref a19, .ref a20, .int mleastOrder, .int mwordsMany, .ref a23, .ref a24, .ref a25, .ref a26, .ref a27, .ref a28])), (a4, .inl (g.2 1, 900, .inl mtape))]) A) ([.ref h0, .ref (sa g ii)].toArray) s 0 0 A) (F0 m 39 ls []) := by
          intro n138
          induction n138 with
          | zero =>
            intro x132 x133 H locs ls h_x132 h_x133 hi134 hi135 hn139
            exact absurd hn139 (Nat.not_lt_zero _)
          | succ n138 ih137 =>
            intro x132 x133 H locs ls h_x132 h_x133 hi134 hi135 hn139 hP hD hS hl
            refine lv_iload_n hx hb dX12_is_39 rfl (lv_at hl 0 rfl) ?_
            refine lv_aload_n hx hb dX12_is_40 rfl (lv_at hl 3 rfl) ?_
            refine call_VS (As := []) (rest := [.int x132]) (wr := [(a4, .inl (g.2 1, 900, .inl mtape)), (h0, .inr (12, [.int mthrown, .ref a1, .ref a2, .ref a3, .ref a4, .int mtaped, .ref a6, .int msize, .int mat, .int mfrom, .int mtoken, .int mvalue, .int mfaultKind, .int mfaultPlace, .ref a14, .ref a15, .int mgoal, .int mgoalDays, .int mgoalHearer, .ref a19, .ref a20, .int mleastOrder, .int mwordsMany, .ref a23, .ref a24, .ref a25, .ref a26, .ref a27, .ref a28]))]) FC hKn hZ (k_J0_length_8abf5 l g ii (by omega)) m_yJ0_length_8abf5 b_1124 (hZ.recv hS (by omega)) hP hD hS hA [] [0, 1] rfl (by decide) rfl (by decide) (by decide) rfl hl.1 rfl (Nat.le_of_ble_eq_true rfl) dX12_is_41 ⟨(Nat.le_of_ble_eq_true rfl), (Nat.le_of_ble_eq_true rfl)⟩ ⟨(Nat.le_of_ble_eq_true rfl), (Nat.le_of_ble_eq_true rfl)⟩ (fun u140 H locs q141 hP hD hS => ?_)
            obtain ⟨q141_0, q141_1⟩ := q141
            have hP : va_P g.1 vwCl [(a4, .inl (g.2 1, 900, .inl mtape)), (h0, .inr (12, [.int mthrown, .ref a1, .ref a2, .ref a3, .ref a4, .int mtaped, .ref a6, .int msize, .int mat, .int mfrom, .int mtoken, .int mvalue, .int mfaultKind, .int mfaultPlace, .ref a14, .ref a15, .int mgoal, .int mgoalDays, .int mgoalHearer, .ref a19, .ref a20, .int mleastOrder, .int mwordsMany, .ref a23, .ref a24, .ref a25, .ref a26, .ref a27, .ref a28]))] H := hP
            have hD : va_D A [(a4, .inl (g.2 1, 900, .inl mtape)), (h0, .inr (12, [.int mthrown, .ref a1, .ref a2, .ref a3, .ref a4, .int mtaped, .ref a6, .int msize, .int mat, .int mfrom, .int mtoken, .int mvalue, .int mfaultKind, .int mfaultPlace, .ref a14, .ref a15, .int mgoal, .int mgoalDays, .int mgoalHearer, .ref a19, .ref a20, .int mleastOrder, .int mwordsMany, .ref a23, .ref a24, .ref a25, .ref a26, .ref a27, .ref a28]))] := hD
            refine W.eq (g2 := F0 m 44 ls [.int (u140.1 0), .int x132]) rfl ?_
            refine lv_icmp_ge (tgt := 82) hx hb dX12_is_44 (by decide) (fun c142 => ?_) (fun c142 => ?_)
            · have c142 := k_le (a := (u140.1 0).toInt) (b := x132.toInt) rfl rfl c142
              refine lv_iload_n hx hb dX12_is_82 rfl (lv_at hl 1 rfl) ?_
              exact rt_z FX (nb (by omega) (by omega)).1 ((fun k => match k with | 0 => x133 | _ => 0), (fun _ => fun _ => 0), (fun _ => fun _ => 0)) rfl ⟨(show 0 ≤ x133.toInt ∧ x133.toInt ≤ 1 by omega), (show x133 = isF mfaultKind mtoken mat mfrom mtape ii from (by first | exact is_1 (k := x132) hi134 (by omega) | exact is_0 hi134 (by omega))), (show (x133).toInt = 1 → mfaultKind.toInt = 0 ∧ mtoken.toInt = 1 from (fun q => (isF_b _ _ _ _ mtape ii).2 (by rw [← show x133 = isF mfaultKind mtoken mat mfrom mtape ii from (by first | exact is_1 (k := x132) hi134 (by omega) | exact is_0 hi134 (by omega))]; exact q)))⟩ (hP.sub [1, 0] rfl) (hD.sub [1, 0] (by decide) rfl) hS (Nat.le_of_ble_eq_true rfl) (Nat.le_of_ble_eq_true rfl) dX12_is_83
            · have c142 := k_nle (a := (u140.1 0).toInt) (b := x132.toInt) rfl rfl c142
              refine lv_iload_n hx hb dX12_is_47 rfl (lv_at hl 1 rfl) ?_
              refine lv_if_eq (tgt := 82) hx hb dX12_is_48 (by decide) (fun c143 => ?_) (fun c143 => ?_)
              · have c143 := k_eq (a := x133.toInt) (b := 0) rfl (by decide) c143
                refine lv_iload_n hx hb dX12_is_82 rfl (lv_at hl 1 rfl) ?_
                exact rt_z FX (nb (by omega) (by omega)).1 ((fun k => match k with | 0 => x133 | _ => 0), (fun _ => fun _ => 0), (fun _ => fun _ => 0)) rfl ⟨(show 0 ≤ x133.toInt ∧ x133.toInt ≤ 1 by omega), (show x133 = isF mfaultKind mtoken mat mfrom mtape ii from (by first | exact is_1 (k := x132) hi134 (by omega) | exact is_0 hi134 (by omega))), (show (x133).toInt = 1 → mfaultKind.toInt = 0 ∧ mtoken.toInt = 1 from (fun q => (isF_b _ _ _ _ mtape ii).2 (by rw [← show x133 = isF mfaultKind mtoken mat mfrom mtape ii from (by first | exact is_1 (k := x132) hi134 (by omega) | exact is_0 hi134 (by omega))]; exact q)))⟩ (hP.sub [1, 0] rfl) (hD.sub [1, 0] (by decide) rfl) hS (Nat.le_of_ble_eq_true rfl) (Nat.le_of_ble_eq_true rfl) dX12_is_83
              · have c143 := k_ne (a := x133.toInt) (b := 0) rfl (by decide) c143
                refine lv_aload_n hx hb dX12_is_51 rfl (lv_at hl 2 rfl) ?_
                refine g_get (C := RX12) (T := TX12) (N := 29) (ci := 12) (v := .ref a4) FC hKn hP i_X12 1 rfl rfl 4 (by decide) b_1105 rfl dX12_is_52 ?_
                refine lv_aload_n hx hb dX12_is_55 rfl (lv_at hl 2 rfl) ?_
                refine g_get (C := RX12) (T := TX12) (N := 29) (ci := 12) (v := .int mfrom) FC hKn hP i_X12 1 rfl rfl 9 (by decide) b_1109 rfl dX12_is_56 ?_
                refine lv_iload_n hx hb dX12_is_59 rfl (lv_at hl 0 rfl) ?_
                refine lv_iadd hx hb dX12_is_60 ?_
                refine lv_topi (fun z144 e_z144 => ?_)
                have t_z144 : z144.toInt = mfrom.toInt + x132.toInt := by rw [e_z144]; exact fb_addI (by omega) (by omega)
                refine va_bald hx hb hKn.1 hP 0 1 rfl rfl (vp_in_iff.mpr ⟨by omega, by omega⟩) dX12_is_61 ?_
                refine lv_topi (fun z145 e_z145 => ?_)
                refine lv_aload_n hx hb dX12_is_62 rfl (lv_at hl 3 rfl) ?_
                refine lv_iload_n hx hb dX12_is_63 rfl (lv_at hl 0 rfl) ?_
                refine call_VS (As := [.int x132]) (rest := [.int z145]) (wr := [(a4, .inl (g.2 1, 900, .inl mtape)), (h0, .inr (12, [.int mthrown, .ref a1, .ref a2, .ref a3, .ref a4, .int mtaped, .ref a6, .int msize, .int mat, .int mfrom, .int mtoken, .int mvalue, .int mfaultKind, .int mfaultPlace, .ref a14, .ref a15, .int mgoal, .int mgoalDays, .int mgoalHearer, .ref a19, .ref a20, .int mleastOrder, .int mwordsMany, .ref a23, .ref a24, .ref a25, .ref a26, .ref a27, .ref a28]))]) FC hKn hZ (k_J0_charAt_5068e l g ii x132 (by omega) (by omega)) m_yJ0_charAt_5068e b_1125 (hZ.recv hS (by omega)) hP hD hS hA [] [0, 1] rfl (by decide) rfl (by decide) (by decide) rfl hl.1 rfl (Nat.le_of_ble_eq_true rfl) dX12_is_64 ⟨(Nat.le_of_ble_eq_true rfl), (Nat.le_of_ble_eq_true rfl)⟩ ⟨(Nat.le_of_ble_eq_true rfl), (Nat.le_of_ble_eq_true rfl)⟩ (fun u146 H locs q147 hP hD hS => ?_)
                have q147_0 : u146.1 0 = chr ii x132.toNatClampNeg := q147
                have hP : va_P g.1 vwCl [(a4, .inl (g.2 1, 900, .inl mtape)), (h0, .inr (12, [.int mthrown, .ref a1, .ref a2, .ref a3, .ref a4, .int mtaped, .ref a6, .int msize, .int mat, .int mfrom, .int mtoken, .int mvalue, .int mfaultKind, .int mfaultPlace, .ref a14, .ref a15, .int mgoal, .int mgoalDays, .int mgoalHearer, .ref a19, .ref a20, .int mleastOrder, .int mwordsMany, .ref a23, .ref a24, .ref a25, .ref a26, .ref a27, .ref a28]))] H := hP
                have hD : va_D A [(a4, .inl (g.2 1, 900, .inl mtape)), (h0, .inr (12, [.int mthrown, .ref a1, .ref a2, .ref a3, .ref a4, .int mtaped, .ref a6, .int msize, .int mat, .int mfrom, .int mtoken, .int mvalue, .int mfaultKind, .int mfaultPlace, .ref a14, .ref a15, .int mgoal, .int mgoalDays, .int mgoalHearer, .ref a19, .ref a20, .int mleastOrder, .int mwordsMany, .ref a23, .ref a24, .ref a25, .ref a26, .ref a27, .ref a28]))] := hD
                refine W.eq (g2 := F0 m 67 ls [.int (u146.1 0), .int z145]) rfl ?_
                refine tp_i (v := chr ii x132.toNatClampNeg) q147_0 ?_
                refine lv_icmp_ne (tgt := 74) hx hb dX12_is_67 (by decide) (fun c148 => ?_) (fun c148 => ?_)
                · have c148 := k_ne (a := z145.toInt) (b := (chr ii x132.toNatClampNeg).toInt) rfl rfl c148
                  refine lv_iconst (v := 0) hx hb dX12_is_74 (by decide) ?_
                  refine lv_istore_n (lv' := [(2, .int 0), (3, .int x132), (0, .ref h0), (1, .ref (sa g ii))]) hx hb dX12_is_75 rfl hl (by decide) rfl (fun ls hl => ?_)
                  obtain ⟨z149, e_z149⟩ : ∃ y : Int32, y = x132 + 1 := ⟨_, rfl⟩
                  have t_z149 : z149.toInt = x132.toInt + 1 := by rw [e_z149]; exact addk (by decide) (by omega) (by omega)
                  refine lv_iinc (v := z149) (lv' := [(3, .int z149), (2, .int 0), (0, .ref h0), (1, .ref (sa g ii))]) hx hb dX12_is_76 hl (k := 1) rfl (by rw [e_z149]; rfl) (by decide) rfl (fun ls hl => ?_)
                  refine lv_goto (tgt := 39) hx hb dX12_is_79 (by decide) ?_
                  exact ih137 z149 (0 : Int32) _ _ ls (by omega) (by decide) (is_d (k := x132) (by omega) (by omega) (by omega) (z := z144) (by omega) e_z145 (by omega)) (by omega) (by omega) hP hD hS (lv_sub hl [0, 1, 2, 3] rfl)
                · have c148 := k_eq (a := z145.toInt) (b := (chr ii x132.toNatClampNeg).toInt) rfl rfl c148
                  refine lv_iconst (v := 1) hx hb dX12_is_70 (by decide) ?_
                  refine lv_goto (tgt := 75) hx hb dX12_is_71 (by decide) ?_
                  refine lv_istore_n (lv' := [(2, .int 1), (3, .int x132), (0, .ref h0), (1, .ref (sa g ii))]) hx hb dX12_is_75 rfl hl (by decide) rfl (fun ls hl => ?_)
                  obtain ⟨z150, e_z150⟩ : ∃ y : Int32, y = x132 + 1 := ⟨_, rfl⟩
                  have t_z150 : z150.toInt = x132.toInt + 1 := by rw [e_z150]; exact addk (by decide) (by omega) (by omega)
                  refine lv_iinc (v := z150) (lv' := [(3, .int z150), (2, .int 1), (0, .ref h0), (1, .ref (sa g ii))]) hx hb dX12_is_76 hl (k := 1) rfl (by rw [e_z150]; rfl) (by decide) rfl (fun ls hl => ?_)
                  refine lv_goto (tgt := 39) hx hb dX12_is_79 (by decide) ?_
                  exact ih137 z150 (1 : Int32) _ _ ls (by omega) (by decide) (is_s hi134 (by omega) (by omega) (by omega) (by omega) (z := z144) (by omega) e_z145 (by omega)) (by omega) (by omega) hP hD hS (lv_sub hl [0, 1, 2, 3] rfl)
        exact lp136 _ (0 : Int32) (1 : Int32) _ _ ls (by decide) (by decide) (is_y ⟨by omega, by omega, by omega⟩) (by omega) (Nat.lt_succ_self _) hP hD hS (lv_sub hl [0, 1, 2, 3] rfl)
  · skip
    refine tp_i (v := 0) (Int32.toInt_inj.mp (show (u1.1 0).toInt = (0 : Int32).toInt by rw [show (0 : Int32).toInt = 0 by decide]; omega)) ?_
    refine lv_if_eq (tgt := 35) hx hb dX12_is_4 (by decide) (fun _ => ?_) (fun h => absurd h (by decide))
    refine lv_iconst (v := 0) hx hb dX12_is_35 (by decide) ?_
    refine lv_istore_n (lv' := [(2, .int 0), (0, .ref h0), (1, .ref (sa g ii))]) hx hb dX12_is_36 rfl hl (by decide) rfl (fun ls hl => ?_)
    refine lv_iconst (v := 0) hx hb dX12_is_37 (by decide) ?_
    refine lv_istore_n (lv' := [(3, .int 0), (2, .int 0), (0, .ref h0), (1, .ref (sa g ii))]) hx hb dX12_is_38 rfl hl (by decide) rfl (fun ls hl => ?_)
    have kc0 : (0 : Int32).toInt = 0 := by decide
    have kc1 : (1 : Int32).toInt = 1 := by decide
    have lp156 : ∀ (n158 : Nat)  (H : Heap) (locs : List Loc) (ls : Array Slot), isL ((0 : Int32)) ((0 : Int32)).toInt mfaultKind mtoken mat mfrom mtape ii → ((0 : Int32)).toInt ≤ (sl ii).toInt → 0 < n158 → va_P g.1 vwCl [(a4, .inl (g.2 1, 900, .inl mtape)), (h0, .inr (12, [.int mthrown, .ref a1, .ref a2, .ref a3, .ref a4, .int mtaped, .ref a6, .int msize, .int mat, .int mfrom, .int mtoken, .int mvalue, .int mfaultKind, .int mfaultPlace, .ref a14, .ref a15, .int mgoal, .int mgoalDays, .int mgoalHearer, .ref a19, .ref a20, .int mleastOrder, .int mwordsMany, .ref a23, .ref a24, .ref a25, .ref a26, .ref a27, .ref a28]))] H → va_D A [(a4, .inl (g.2 1, 900, .inl mtape)), (h0, .inr (12, [.int mthrown, .ref a1, .ref a2, .ref a3, .ref a4, .int mtaped, .ref a6, .int msize, .int mat, .int mfrom, .int mtoken, .int mvalue, .int mfaultKind, .int mfaultPlace, .ref a14, .ref a15, .int mgoal, .int mgoalDays, .int mgoalHearer, .ref a19, .ref a20, .int mleastOrder, .int mwordsMany, .ref a23, .ref a24, .ref a25, .ref a26, .ref a27, .ref a28]))] → va_S A s.heap H locs → lv_has ls 4 [(3, .int 0), (2, .int 0), (0, .ref h0), (1, .ref (sa g ii))] → W p l e { frames := 4, cells := 0, slots := 0, locals := 85 } s m ([.ref h0, .ref (sa g ii)].toArray) below meth c H locs 0 0 (MQ below (QX (S := (Nat → Int32) × (Nat → Nat → Int32) × (Nat → Nat → Int64)) (fun u => some (.int (u.1 0))) (fun u => (0 ≤ (u.1 0).toInt ∧ (u.1 0).toInt ≤ 1) ∧ (u.1 0 = isF mfaultKind mtoken mat mfrom mtape ii) ∧ ((u.1 0).toInt = 1 → mfaultKind.toInt = 0 ∧ mtoken.toInt = 1)) g (fun u => [(h0, .inr (12, [.int mthrown, .ref a1, .ref a2, .ref a3, .ref a4, .int mtaped, .ref a6, .int msize, .int mat, .int mfrom, .int mtoken, .int mvalue, .int mfaultKind, .int mfaultPlace, .ref a14, .ref a15, .int mgoal, .int mgoalDays, .int mgoalHearer, .ref a19, .ref a20, .int mleastOrder, .int mwordsMany, .ref a23, .ref a24, .ref a25, .ref a26, .ref a27, .ref a28])), (a4, .inl (g.2 1, 900, .inl mtape))]) A) ([.ref h0, .ref (sa g ii)].toArray) s 0 0 A) (F0 m 39 ls []) := by
      intro n158
      induction n158 with
      | zero =>
        intro  H locs ls hi154 hi155 hn159
        exact absurd hn159 (Nat.not_lt_zero _)
      | succ n158 ih157 =>
        intro  H locs ls hi154 hi155 hn159 hP hD hS hl
        refine lv_iload_n hx hb dX12_is_39 rfl (lv_at hl 0 rfl) ?_
        refine lv_aload_n hx hb dX12_is_40 rfl (lv_at hl 3 rfl) ?_
        refine call_VS (As := []) (rest := [.int 0]) (wr := [(a4, .inl (g.2 1, 900, .inl mtape)), (h0, .inr (12, [.int mthrown, .ref a1, .ref a2, .ref a3, .ref a4, .int mtaped, .ref a6, .int msize, .int mat, .int mfrom, .int mtoken, .int mvalue, .int mfaultKind, .int mfaultPlace, .ref a14, .ref a15, .int mgoal, .int mgoalDays, .int mgoalHearer, .ref a19, .ref a20, .int mleastOrder, .int mwordsMany, .ref a23, .ref a24, .ref a25, .ref a26, .ref a27, .ref a28]))]) FC hKn hZ (k_J0_length_8abf5 l g ii (by omega)) m_yJ0_length_8abf5 b_1124 (hZ.recv hS (by omega)) hP hD hS hA [] [0, 1] rfl (by decide) rfl (by decide) (by decide) rfl hl.1 rfl (Nat.le_of_ble_eq_true rfl) dX12_is_41 ⟨(Nat.le_of_ble_eq_true rfl), (Nat.le_of_ble_eq_true rfl)⟩ ⟨(Nat.le_of_ble_eq_true rfl), (Nat.le_of_ble_eq_true rfl)⟩ (fun u160 H locs q161 hP hD hS => ?_)
        obtain ⟨q161_0, q161_1⟩ := q161
        have hP : va_P g.1 vwCl [(a4, .inl (g.2 1, 900, .inl mtape)), (h0, .inr (12, [.int mthrown, .ref a1, .ref a2, .ref a3, .ref a4, .int mtaped, .ref a6, .int msize, .int mat, .int mfrom, .int mtoken, .int mvalue, .int mfaultKind, .int mfaultPlace, .ref a14, .ref a15, .int mgoal, .int mgoalDays, .int mgoalHearer, .ref a19, .ref a20, .int mleastOrder, .int mwordsMany, .ref a23, .ref a24, .ref a25, .ref a26, .ref a27, .ref a28]))] H := hP
        have hD : va_D A [(a4, .inl (g.2 1, 900, .inl mtape)), (h0, .inr (12, [.int mthrown, .ref a1, .ref a2, .ref a3, .ref a4, .int mtaped, .ref a6, .int msize, .int mat, .int mfrom, .int mtoken, .int mvalue, .int mfaultKind, .int mfaultPlace, .ref a14, .ref a15, .int mgoal, .int mgoalDays, .int mgoalHearer, .ref a19, .ref a20, .int mleastOrder, .int mwordsMany, .ref a23, .ref a24, .ref a25, .ref a26, .ref a27, .ref a28]))] := hD
        refine W.eq (g2 := F0 m 44 ls [.int (u160.1 0), .int 0]) rfl ?_
        refine lv_icmp_ge (tgt := 82) hx hb dX12_is_44 (by decide) (fun c162 => ?_) (fun c162 => ?_)
        · have c162 := k_le (a := (u160.1 0).toInt) (b := 0) rfl (by decide) c162
          exfalso; omega
        · have c162 := k_nle (a := (u160.1 0).toInt) (b := 0) rfl (by decide) c162
          refine lv_iload_n hx hb dX12_is_47 rfl (lv_at hl 1 rfl) ?_
          refine lv_if_eq (tgt := 82) hx hb dX12_is_48 (by decide) (fun _ => ?_) (fun h => absurd h (by decide))
          refine lv_iload_n hx hb dX12_is_82 rfl (lv_at hl 1 rfl) ?_
          exact rt_z FX rfl ((fun k => match k with | 0 => (0 : Int32) | _ => 0), (fun _ => fun _ => 0), (fun _ => fun _ => 0)) rfl ⟨(show 0 ≤ ((0 : Int32)).toInt ∧ ((0 : Int32)).toInt ≤ 1 by decide), (show (0 : Int32) = isF mfaultKind mtoken mat mfrom mtape ii from (by first | exact is_1 (k := 0) hi154 (by omega) | exact is_0 hi154 (by omega))), (show ((0 : Int32)).toInt = 1 → mfaultKind.toInt = 0 ∧ mtoken.toInt = 1 from (fun q => (isF_b _ _ _ _ mtape ii).2 (by rw [← show ((0 : Int32)) = isF mfaultKind mtoken mat mfrom mtape ii from (by first | exact is_1 (k := 0) hi154 (by omega) | exact is_0 hi154 (by omega))]; exact q)))⟩ (hP.sub [1, 0] rfl) (hD.sub [1, 0] (by decide) rfl) hS (Nat.le_of_ble_eq_true rfl) (Nat.le_of_ble_eq_true rfl) dX12_is_83
    exact lp156 _  _ _ ls (is_n (fun q => by obtain ⟨q1, q2, q3⟩ := q; omega)) (by omega) (Nat.lt_succ_self _) hP hD hS (lv_sub hl [0, 1, 2, 3] rfl)
