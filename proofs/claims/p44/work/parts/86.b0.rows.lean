set_option maxRecDepth 100000 in
set_option maxHeartbeats 4000000 in
theorem k_X12_readNext (l : Launch) (g : GG) (h0 : Nat) (a1 : Nat) (a2 : Nat) (a3 : Nat) (a4 : Nat) (a6 : Nat) (a14 : Nat) (a15 : Nat) (a19 : Nat) (a20 : Nat) (a23 : Nat) (a24 : Nat) (a25 : Nat) (a26 : Nat) (a27 : Nat) (a28 : Nat) (mthrown : Int32) (mtaped : Int32) (msize : Int32) (mat : Int32) (mfrom : Int32) (mtoken : Int32) (mvalue : Int32) (mfaultKind : Int32) (mfaultPlace : Int32) (mgoal : Int32) (mgoalDays : Int32) (mgoalHearer : Int32) (mleastOrder : Int32) (mwordsMany : Int32) (mtape : Nat → Int32) (mfresh : Nat → Int32) (i_mtaped : 0 ≤ mtaped.toInt ∧ mtaped.toInt ≤ 900) (i_msize : 0 ≤ msize.toInt ∧ msize.toInt ≤ 900) (i_mat : 0 ≤ mat.toInt ∧ mat.toInt ≤ 900) (i_mfrom : 0 ≤ mfrom.toInt ∧ mfrom.toInt ≤ 900) (i_mtoken : 0 ≤ mtoken.toInt ∧ mtoken.toInt ≤ 4) (i_mvalue : 0 ≤ mvalue.toInt ∧ mvalue.toInt ≤ 99999) (i_mfaultKind : 0 ≤ mfaultKind.toInt ∧ mfaultKind.toInt ≤ 0) (i_mgoalHearer : 0 ≤ mgoalHearer.toInt ∧ mgoalHearer.toInt ≤ 3) (i_mwordsMany : 0 ≤ mwordsMany.toInt ∧ mwordsMany.toInt ≤ 10) (i_mfresh : wok mfresh) : Ct l g yX12_readNext cX12_readNext 3 none { frames := 9, cells := 0, slots := 0, locals := 197 } [.ref h0] [(h0, .inr (12, [.int mthrown, .ref a1, .ref a2, .ref a3, .ref a4, .int mtaped, .ref a6, .int msize, .int mat, .int mfrom, .int mtoken, .int mvalue, .int mfaultKind, .int mfaultPlace, .ref a14, .ref a15, .int mgoal, .int mgoalDays, .int mgoalHearer, .ref a19, .ref a20, .int mleastOrder, .int mwordsMany, .ref a23, .ref a24, .ref a25, .ref a26, .ref a27, .ref a28])), (a4, .inl (g.2 1, 900, .inl mtape)), (a14, .inl (g.2 0, 225, .inl mfresh))] (S := (Nat → Int32) × (Nat → Nat → Int32) × (Nat → Nat → Int64)) (fun _ => none) (fun u => (0 ≤ (u.1 1).toInt ∧ (u.1 1).toInt ≤ 900) ∧ (0 ≤ (u.1 2).toInt ∧ (u.1 2).toInt ≤ 900) ∧ (0 ≤ (u.1 3).toInt ∧ (u.1 3).toInt ≤ 4) ∧ (0 ≤ (u.1 4).toInt ∧ (u.1 4).toInt ≤ 99999) ∧ (0 ≤ (u.1 5).toInt ∧ (u.1 5).toInt ≤ 3) ∧ (wok (u.2.1 0)) ∧ (5 * mat.toInt - mtoken.toInt ≤ 5 * (u.1 1).toInt - (u.1 3).toInt) ∧ ((u.1 5).toInt = 0 → mfaultKind.toInt = 0) ∧ (((u.2.1 0) 0).toInt = (mfresh 0).toInt ∧ ((u.2.1 0) 2).toInt = (mfresh 2).toInt)) (fun u => [(h0, .inr (12, [.int mthrown, .ref a1, .ref a2, .ref a3, .ref a4, .int mtaped, .ref a6, .int msize, .int (u.1 1), .int (u.1 2), .int (u.1 3), .int (u.1 4), .int (u.1 5), .int (u.1 6), .ref a14, .ref a15, .int mgoal, .int mgoalDays, .int mgoalHearer, .ref a19, .ref a20, .int mleastOrder, .int mwordsMany, .ref a23, .ref a24, .ref a25, .ref a26, .ref a27, .ref a28])), (a4, .inl (g.2 1, 900, .inl mtape)), (a14, .inl (g.2 0, 225, .inl (u.2.1 0)))]) := by
  refine Ct.of (by decide) (Nat.le_of_ble_eq_true rfl) ?_
  intro p e s m below meth c A ls FX hP hD hS hl
  obtain ⟨FC, hr, hlk, hKn, hA, hnm, hZ⟩ := id FX
  have FC : CallFix p m c cX12_readNext 3 s _ BIG RX12 := FC
  obtain ⟨hx, hb, hml, hown, hB⟩ := id FC
  have hl : lv_has ls 3 [(0, .ref h0)] := hl
  have jn2 : ∀ (x1 : Int32) (H : Heap) (locs : List Loc) (ls : Array Slot), 0 ≤ x1.toInt ∧ x1.toInt ≤ 1 → va_P g.1 vwCl [(h0, .inr (12, [.int mthrown, .ref a1, .ref a2, .ref a3, .ref a4, .int mtaped, .ref a6, .int msize, .int mat, .int mfrom, .int mtoken, .int mvalue, .int mfaultKind, .int mfaultPlace, .ref a14, .ref a15, .int mgoal, .int mgoalDays, .int mgoalHearer, .ref a19, .ref a20, .int mleastOrder, .int mwordsMany, .ref a23, .ref a24, .ref a25, .ref a26, .ref a27, .ref a28])), (a4, .inl (g.2 1, 900, .inl mtape)), (a14, .inl (g.2 0, 225, .inl mfresh))] H → va_D A [(h0, .inr (12, [.int mthrown, .ref a1, .ref a2, .ref a3, .ref a4, .int mtaped, .ref a6, .int msize, .int mat, .int mfrom, .int mtoken, .int mvalue, .int mfaultKind, .int mfaultPlace, .ref a14, .ref a15, .int mgoal, .int mgoalDays, .int mgoalHearer, .ref a19, .ref a20, .int mleastOrder, .int mwordsMany, .ref a23, .ref a24, .ref a25, .ref a26, .ref a27, .ref a28])), (a4, .inl (g.2 1, 900, .inl mtape)), (a14, .inl (g.2 0, 225, .inl mfresh))] → va_S A s.heap H locs → lv_has ls 3 [(1, .int x1), (0, .ref h0)] → W p l e { frames := 9, cells := 0, slots := 0, locals := 197 } s m ([.ref h0].toArray) below meth c H locs 0 0 (MQ below (QX (S := (Nat → Int32) × (Nat → Nat → Int32) × (Nat → Nat → Int64)) (fun _ => none) (fun u => (0 ≤ (u.1 1).toInt ∧ (u.1 1).toInt ≤ 900) ∧ (0 ≤ (u.1 2).toInt ∧ (u.1 2).toInt ≤ 900) ∧ (0 ≤ (u.1 3).toInt ∧ (u.1 3).toInt ≤ 4) ∧ (0 ≤ (u.1 4).toInt ∧ (u.1 4).toInt ≤ 99999) ∧ (0 ≤ (u.1 5).toInt ∧ (u.1 5).toInt ≤ 3) ∧ (wok (u.2.1 0)) ∧ (5 * mat.toInt - mtoken.toInt ≤ 5 * (u.1 1).toInt - (u.1 3).toInt) ∧ ((u.1 5).toInt = 0 → mfaultKind.toInt = 0) ∧ (((u.2.1 0) 0).toInt = (mfresh 0).toInt ∧ ((u.2.1 0) 2).toInt = (mfresh 2).toInt)) g (fun u => [(h0, .inr (12, [.int mthrown, .ref a1, .ref a2, .ref a3, .ref a4, .int mtaped, .ref a6, .int msize, .int (u.1 1), .int (u.1 2), .int (u.1 3), .int (u.1 4), .int (u.1 5), .int (u.1 6), .ref a14, .ref a15, .int mgoal, .int mgoalDays, .int mgoalHearer, .ref a19, .ref a20, .int mleastOrder, .int mwordsMany, .ref a23, .ref a24, .ref a25, .ref a26, .ref a27, .ref a28])), (a4, .inl (g.2 1, 900, .inl mtape)), (a14, .inl (g.2 0, 225, .inl (u.2.1 0)))]) A) ([.ref h0].toArray) s 0 0 A) (F0 m 60 ls []) := by
    intro x1 H locs ls h_x1 hP hD hS hl
    have jn6 : ∀ (x3 : Int32) (x4 : Int32) (H : Heap) (locs : List Loc) (ls : Array Slot), 0 ≤ x3.toInt ∧ x3.toInt ≤ 3 → (x3.toInt = 0 → (((isF x3 mtoken mat mfrom mtape 25).toInt = 1 → (mfresh 5).toInt ≤ 3) ∧ ((isF x3 mtoken mat mfrom mtape 26).toInt = 1 → (mfresh 6).toInt ≤ 7) ∧ ((isF x3 mtoken mat mfrom mtape 27).toInt = 1 → (mfresh 7).toInt ≤ 3) ∧ ((isF x3 mtoken mat mfrom mtape 28).toInt = 1 → (mfresh 8).toInt ≤ 5))) → va_P g.1 vwCl [(h0, .inr (12, [.int mthrown, .ref a1, .ref a2, .ref a3, .ref a4, .int mtaped, .ref a6, .int msize, .int mat, .int mfrom, .int mtoken, .int mvalue, .int x3, .int x4, .ref a14, .ref a15, .int mgoal, .int mgoalDays, .int mgoalHearer, .ref a19, .ref a20, .int mleastOrder, .int mwordsMany, .ref a23, .ref a24, .ref a25, .ref a26, .ref a27, .ref a28])), (a4, .inl (g.2 1, 900, .inl mtape)), (a14, .inl (g.2 0, 225, .inl mfresh))] H → va_D A [(h0, .inr (12, [.int mthrown, .ref a1, .ref a2, .ref a3, .ref a4, .int mtaped, .ref a6, .int msize, .int mat, .int mfrom, .int mtoken, .int mvalue, .int x3, .int x4, .ref a14, .ref a15, .int mgoal, .int mgoalDays, .int mgoalHearer, .ref a19, .ref a20, .int mleastOrder, .int mwordsMany, .ref a23, .ref a24, .ref a25, .ref a26, .ref a27, .ref a28])), (a4, .inl (g.2 1, 900, .inl mtape)), (a14, .inl (g.2 0, 225, .inl mfresh))] → va_S A s.heap H locs → lv_has ls 3 [(1, .int x1), (0, .ref h0)] → W p l e { frames := 9, cells := 0, slots := 0, locals := 197 } s m ([.ref h0].toArray) below meth c H locs 0 0 (MQ below (QX (S := (Nat → Int32) × (Nat → Nat → Int32) × (Nat → Nat → Int64)) (fun _ => none) (fun u => (0 ≤ (u.1 1).toInt ∧ (u.1 1).toInt ≤ 900) ∧ (0 ≤ (u.1 2).toInt ∧ (u.1 2).toInt ≤ 900) ∧ (0 ≤ (u.1 3).toInt ∧ (u.1 3).toInt ≤ 4) ∧ (0 ≤ (u.1 4).toInt ∧ (u.1 4).toInt ≤ 99999) ∧ (0 ≤ (u.1 5).toInt ∧ (u.1 5).toInt ≤ 3) ∧ (wok (u.2.1 0)) ∧ (5 * mat.toInt - mtoken.toInt ≤ 5 * (u.1 1).toInt - (u.1 3).toInt) ∧ ((u.1 5).toInt = 0 → mfaultKind.toInt = 0) ∧ (((u.2.1 0) 0).toInt = (mfresh 0).toInt ∧ ((u.2.1 0) 2).toInt = (mfresh 2).toInt)) g (fun u => [(h0, .inr (12, [.int mthrown, .ref a1, .ref a2, .ref a3, .ref a4, .int mtaped, .ref a6, .int msize, .int (u.1 1), .int (u.1 2), .int (u.1 3), .int (u.1 4), .int (u.1 5), .int (u.1 6), .ref a14, .ref a15, .int mgoal, .int mgoalDays, .int mgoalHearer, .ref a19, .ref a20, .int mleastOrder, .int mwordsMany, .ref a23, .ref a24, .ref a25, .ref a26, .ref a27, .ref a28])), (a4, .inl (g.2 1, 900, .inl mtape)), (a14, .inl (g.2 0, 225, .inl (u.2.1 0)))]) A) ([.ref h0].toArray) s 0 0 A) (F0 m 155 ls []) := by
      intro x3 x4 H locs ls h_x3 hi5 hP hD hS hl
      refine lv_aload_n hx hb dX12_readNext_155 rfl (lv_at hl 1 rfl) ?_
      refine call_V (As := []) (rest := []) (wr := [(a4, .inl (g.2 1, 900, .inl mtape)), (a14, .inl (g.2 0, 225, .inl mfresh))]) FC hKn hZ (k_X12_good l g h0 a1 a2 a3 a4 a6 a14 a15 a19 a20 a23 a24 a25 a26 a27 a28 mthrown mtaped msize mat mfrom mtoken mvalue x3 x4 mgoal mgoalDays mgoalHearer mleastOrder mwordsMany (by omega) (by omega) (by omega) (by omega) (by omega) (by omega) (by omega) (by omega) (by omega)) m_yX12_good b_1117 (ci := 12) rfl rfl rfl hP hD hS hA [0] [1, 2] rfl (by decide) rfl (by decide) (by decide) rfl hl.1 rfl (Nat.le_of_ble_eq_true rfl) dX12_readNext_156 ⟨(Nat.le_of_ble_eq_true rfl), (Nat.le_of_ble_eq_true rfl)⟩ ⟨(Nat.le_of_ble_eq_true rfl), (Nat.le_of_ble_eq_true rfl)⟩ (fun u7 H locs q8 hP hD hS => ?_)
      obtain ⟨q8_0, q8_1⟩ := q8
      have hP : va_P g.1 vwCl [(a4, .inl (g.2 1, 900, .inl mtape)), (a14, .inl (g.2 0, 225, .inl mfresh)), (h0, .inr (12, [.int mthrown, .ref a1, .ref a2, .ref a3, .ref a4, .int mtaped, .ref a6, .int msize, .int mat, .int mfrom, .int mtoken, .int mvalue, .int x3, .int x4, .ref a14, .ref a15, .int mgoal, .int mgoalDays, .int mgoalHearer, .ref a19, .ref a20, .int mleastOrder, .int mwordsMany, .ref a23, .ref a24, .ref a25, .ref a26, .ref a27, .ref a28]))] H := hP
      have hD : va_D A [(a4, .inl (g.2 1, 900, .inl mtape)), (a14, .inl (g.2 0, 225, .inl mfresh)), (h0, .inr (12, [.int mthrown, .ref a1, .ref a2, .ref a3, .ref a4, .int mtaped, .ref a6, .int msize, .int mat, .int mfrom, .int mtoken, .int mvalue, .int x3, .int x4, .ref a14, .ref a15, .int mgoal, .int mgoalDays, .int mgoalHearer, .ref a19, .ref a20, .int mleastOrder, .int mwordsMany, .ref a23, .ref a24, .ref a25, .ref a26, .ref a27, .ref a28]))] := hD
      refine W.eq (g2 := F0 m 159 ls [.int (u7.1 0)]) rfl ?_
      rcases (show x3.toInt = 0 ∨ x3.toInt ≠ 0 by omega) with c9 | c9
      · skip
        refine tp_i (v := 1) (Int32.toInt_inj.mp (show (u7.1 0).toInt = (1 : Int32).toInt by rw [show (1 : Int32).toInt = 1 by decide]; omega)) ?_
        refine lv_if_ne (tgt := 163) hx hb dX12_readNext_159 (by decide) (fun _ => ?_) (fun h => absurd h (by decide))
        refine lv_aload_n hx hb dX12_readNext_163 rfl (lv_at hl 1 rfl) ?_
        refine va_ldcS hx hb hown (hZ.2.2 24 _ rfl).1 dX12_readNext_164 ?_
        refine call_V (As := [.ref (sa g 24)]) (rest := []) (wr := [(a14, .inl (g.2 0, 225, .inl mfresh))]) FC hKn hZ (k_X12_takes l g 24 h0 a1 a2 a3 a4 a6 a14 a15 a19 a20 a23 a24 a25 a26 a27 a28 mthrown mtaped msize mat mfrom mtoken mvalue x3 x4 mgoal mgoalDays mgoalHearer mleastOrder mwordsMany mtape (by omega) (by omega) (by omega) (by omega) (by omega) (by omega) (by omega) (by omega) (by omega) (by omega)) m_yX12_takes b_1128 (ci := 12) rfl rfl rfl hP hD hS hA [2, 0] [1] rfl (by decide) rfl (by decide) (by decide) rfl hl.1 rfl (Nat.le_of_ble_eq_true rfl) dX12_readNext_166 ⟨(Nat.le_of_ble_eq_true rfl), (Nat.le_of_ble_eq_true rfl)⟩ ⟨(Nat.le_of_ble_eq_true rfl), (Nat.le_of_ble_eq_true rfl)⟩ (fun u10 H locs q11 hP hD hS => ?_)
        obtain ⟨q11_0, q11_1, q11_2, q11_3, q11_4, q11_5, q11_6, q11_7, q11_8⟩ := q11
        have hP : va_P g.1 vwCl [(a14, .inl (g.2 0, 225, .inl mfresh)), (h0, .inr (12, [.int mthrown, .ref a1, .ref a2, .ref a3, .ref a4, .int mtaped, .ref a6, .int msize, .int (u10.1 1), .int (u10.1 2), .int (u10.1 3), .int (u10.1 4), .int x3, .int x4, .ref a14, .ref a15, .int mgoal, .int mgoalDays, .int mgoalHearer, .ref a19, .ref a20, .int mleastOrder, .int mwordsMany, .ref a23, .ref a24, .ref a25, .ref a26, .ref a27, .ref a28])), (a4, .inl (g.2 1, 900, .inl mtape))] H := hP
        have hD : va_D A [(a14, .inl (g.2 0, 225, .inl mfresh)), (h0, .inr (12, [.int mthrown, .ref a1, .ref a2, .ref a3, .ref a4, .int mtaped, .ref a6, .int msize, .int (u10.1 1), .int (u10.1 2), .int (u10.1 3), .int (u10.1 4), .int x3, .int x4, .ref a14, .ref a15, .int mgoal, .int mgoalDays, .int mgoalHearer, .ref a19, .ref a20, .int mleastOrder, .int mwordsMany, .ref a23, .ref a24, .ref a25, .ref a26, .ref a27, .ref a28])), (a4, .inl (g.2 1, 900, .inl mtape))] := hD
        refine W.eq (g2 := F0 m 169 ls [.int (u10.1 0)]) rfl ?_
        rw [q11_5] at q11_0
        rw [q11_5] at q11_6
        rw [q11_5] at q11_8
        refine tp_i (v := isF x3 mtoken mat mfrom mtape 24) q11_5 ?_
        rcases (show (isF x3 mtoken mat mfrom mtape 24).toInt = 0 ∨ (isF x3 mtoken mat mfrom mtape 24).toInt = 1 by omega) with c12 | c12
        · obtain ⟨w1, w2, w3, w4⟩ := q11_6 c12
          rw [w1, w2, w3, w4] at hP hD
          have hP : va_P g.1 vwCl [(a14, .inl (g.2 0, 225, .inl mfresh)), (h0, .inr (12, [.int mthrown, .ref a1, .ref a2, .ref a3, .ref a4, .int mtaped, .ref a6, .int msize, .int mat, .int mfrom, .int mtoken, .int mvalue, .int x3, .int x4, .ref a14, .ref a15, .int mgoal, .int mgoalDays, .int mgoalHearer, .ref a19, .ref a20, .int mleastOrder, .int mwordsMany, .ref a23, .ref a24, .ref a25, .ref a26, .ref a27, .ref a28])), (a4, .inl (g.2 1, 900, .inl mtape))] H := hP
          have hD : va_D A [(a14, .inl (g.2 0, 225, .inl mfresh)), (h0, .inr (12, [.int mthrown, .ref a1, .ref a2, .ref a3, .ref a4, .int mtaped, .ref a6, .int msize, .int mat, .int mfrom, .int mtoken, .int mvalue, .int x3, .int x4, .ref a14, .ref a15, .int mgoal, .int mgoalDays, .int mgoalHearer, .ref a19, .ref a20, .int mleastOrder, .int mwordsMany, .ref a23, .ref a24, .ref a25, .ref a26, .ref a27, .ref a28])), (a4, .inl (g.2 1, 900, .inl mtape))] := hD
          refine lv_if_eq (tgt := 209) hx hb dX12_readNext_169 (by decide) (fun c13 => ?_) (fun c13 => ?_)
          · have c13 := k_eq (a := (isF x3 mtoken mat mfrom mtape 24).toInt) (b := 0) rfl (by decide) c13
            refine lv_aload_n hx hb dX12_readNext_209 rfl (lv_at hl 1 rfl) ?_
            refine va_ldcS hx hb hown (hZ.2.2 25 _ rfl).1 dX12_readNext_210 ?_
            refine call_V (As := [.ref (sa g 25)]) (rest := []) (wr := [(a14, .inl (g.2 0, 225, .inl mfresh))]) FC hKn hZ (k_X12_takes l g 25 h0 a1 a2 a3 a4 a6 a14 a15 a19 a20 a23 a24 a25 a26 a27 a28 mthrown mtaped msize mat mfrom mtoken mvalue x3 x4 mgoal mgoalDays mgoalHearer mleastOrder mwordsMany mtape (by omega) (by omega) (by omega) (by omega) (by omega) (by omega) (by omega) (by omega) (by omega) (by omega)) m_yX12_takes b_1128 (ci := 12) rfl rfl rfl hP hD hS hA [1, 2] [0] rfl (by decide) rfl (by decide) (by decide) rfl hl.1 rfl (Nat.le_of_ble_eq_true rfl) dX12_readNext_212 ⟨(Nat.le_of_ble_eq_true rfl), (Nat.le_of_ble_eq_true rfl)⟩ ⟨(Nat.le_of_ble_eq_true rfl), (Nat.le_of_ble_eq_true rfl)⟩ (fun u14 H locs q15 hP hD hS => ?_)
            obtain ⟨q15_0, q15_1, q15_2, q15_3, q15_4, q15_5, q15_6, q15_7, q15_8⟩ := q15
            have hP : va_P g.1 vwCl [(a14, .inl (g.2 0, 225, .inl mfresh)), (h0, .inr (12, [.int mthrown, .ref a1, .ref a2, .ref a3, .ref a4, .int mtaped, .ref a6, .int msize, .int (u14.1 1), .int (u14.1 2), .int (u14.1 3), .int (u14.1 4), .int x3, .int x4, .ref a14, .ref a15, .int mgoal, .int mgoalDays, .int mgoalHearer, .ref a19, .ref a20, .int mleastOrder, .int mwordsMany, .ref a23, .ref a24, .ref a25, .ref a26, .ref a27, .ref a28])), (a4, .inl (g.2 1, 900, .inl mtape))] H := hP
            have hD : va_D A [(a14, .inl (g.2 0, 225, .inl mfresh)), (h0, .inr (12, [.int mthrown, .ref a1, .ref a2, .ref a3, .ref a4, .int mtaped, .ref a6, .int msize, .int (u14.1 1), .int (u14.1 2), .int (u14.1 3), .int (u14.1 4), .int x3, .int x4, .ref a14, .ref a15, .int mgoal, .int mgoalDays, .int mgoalHearer, .ref a19, .ref a20, .int mleastOrder, .int mwordsMany, .ref a23, .ref a24, .ref a25, .ref a26, .ref a27, .ref a28])), (a4, .inl (g.2 1, 900, .inl mtape))] := hD
            refine W.eq (g2 := F0 m 215 ls [.int (u14.1 0)]) rfl ?_
            rw [q15_5] at q15_0
            rw [q15_5] at q15_6
            rw [q15_5] at q15_8
            refine tp_i (v := isF x3 mtoken mat mfrom mtape 25) q15_5 ?_
            rcases (show (isF x3 mtoken mat mfrom mtape 25).toInt = 0 ∨ (isF x3 mtoken mat mfrom mtape 25).toInt = 1 by omega) with c16 | c16
            · obtain ⟨w1, w2, w3, w4⟩ := q15_6 c16
              rw [w1, w2, w3, w4] at hP hD
              have hP : va_P g.1 vwCl [(a14, .inl (g.2 0, 225, .inl mfresh)), (h0, .inr (12, [.int mthrown, .ref a1, .ref a2, .ref a3, .ref a4, .int mtaped, .ref a6, .int msize, .int mat, .int mfrom, .int mtoken, .int mvalue, .int x3, .int x4, .ref a14, .ref a15, .int mgoal, .int mgoalDays, .int mgoalHearer, .ref a19, .ref a20, .int mleastOrder, .int mwordsMany, .ref a23, .ref a24, .ref a25, .ref a26, .ref a27, .ref a28])), (a4, .inl (g.2 1, 900, .inl mtape))] H := hP
              have hD : va_D A [(a14, .inl (g.2 0, 225, .inl mfresh)), (h0, .inr (12, [.int mthrown, .ref a1, .ref a2, .ref a3, .ref a4, .int mtaped, .ref a6, .int msize, .int mat, .int mfrom, .int mtoken, .int mvalue, .int x3, .int x4, .ref a14, .ref a15, .int mgoal, .int mgoalDays, .int mgoalHearer, .ref a19, .ref a20, .int mleastOrder, .int mwordsMany, .ref a23, .ref a24, .ref a25, .ref a26, .ref a27, .ref a28])), (a4, .inl (g.2 1, 900, .inl mtape))] := hD
              refine lv_if_eq (tgt := 225) hx hb dX12_readNext_215 (by decide) (fun c17 => ?_) (fun c17 => ?_)
              · have c17 := k_eq (a := (isF x3 mtoken mat mfrom mtape 25).toInt) (b := 0) rfl (by decide) c17
                refine lv_aload_n hx hb dX12_readNext_225 rfl (lv_at hl 1 rfl) ?_
                refine va_ldcS hx hb hown (hZ.2.2 26 _ rfl).1 dX12_readNext_226 ?_
                refine call_V (As := [.ref (sa g 26)]) (rest := []) (wr := [(a14, .inl (g.2 0, 225, .inl mfresh))]) FC hKn hZ (k_X12_takes l g 26 h0 a1 a2 a3 a4 a6 a14 a15 a19 a20 a23 a24 a25 a26 a27 a28 mthrown mtaped msize mat mfrom mtoken mvalue x3 x4 mgoal mgoalDays mgoalHearer mleastOrder mwordsMany mtape (by omega) (by omega) (by omega) (by omega) (by omega) (by omega) (by omega) (by omega) (by omega) (by omega)) m_yX12_takes b_1128 (ci := 12) rfl rfl rfl hP hD hS hA [1, 2] [0] rfl (by decide) rfl (by decide) (by decide) rfl hl.1 rfl (Nat.le_of_ble_eq_true rfl) dX12_readNext_228 ⟨(Nat.le_of_ble_eq_true rfl), (Nat.le_of_ble_eq_true rfl)⟩ ⟨(Nat.le_of_ble_eq_true rfl), (Nat.le_of_ble_eq_true rfl)⟩ (fun u18 H locs q19 hP hD hS => ?_)
                obtain ⟨q19_0, q19_1, q19_2, q19_3, q19_4, q19_5, q19_6, q19_7, q19_8⟩ := q19
                have hP : va_P g.1 vwCl [(a14, .inl (g.2 0, 225, .inl mfresh)), (h0, .inr (12, [.int mthrown, .ref a1, .ref a2, .ref a3, .ref a4, .int mtaped, .ref a6, .int msize, .int (u18.1 1), .int (u18.1 2), .int (u18.1 3), .int (u18.1 4), .int x3, .int x4, .ref a14, .ref a15, .int mgoal, .int mgoalDays, .int mgoalHearer, .ref a19, .ref a20, .int mleastOrder, .int mwordsMany, .ref a23, .ref a24, .ref a25, .ref a26, .ref a27, .ref a28])), (a4, .inl (g.2 1, 900, .inl mtape))] H := hP
                have hD : va_D A [(a14, .inl (g.2 0, 225, .inl mfresh)), (h0, .inr (12, [.int mthrown, .ref a1, .ref a2, .ref a3, .ref a4, .int mtaped, .ref a6, .int msize, .int (u18.1 1), .int (u18.1 2), .int (u18.1 3), .int (u18.1 4), .int x3, .int x4, .ref a14, .ref a15, .int mgoal, .int mgoalDays, .int mgoalHearer, .ref a19, .ref a20, .int mleastOrder, .int mwordsMany, .ref a23, .ref a24, .ref a25, .ref a26, .ref a27, .ref a28])), (a4, .inl (g.2 1, 900, .inl mtape))] := hD
                refine W.eq (g2 := F0 m 231 ls [.int (u18.1 0)]) rfl ?_
                rw [q19_5] at q19_0
                rw [q19_5] at q19_6
                rw [q19_5] at q19_8
                refine tp_i (v := isF x3 mtoken mat mfrom mtape 26) q19_5 ?_
                rcases (show (isF x3 mtoken mat mfrom mtape 26).toInt = 0 ∨ (isF x3 mtoken mat mfrom mtape 26).toInt = 1 by omega) with c20 | c20
                · obtain ⟨w1, w2, w3, w4⟩ := q19_6 c20
                  rw [w1, w2, w3, w4] at hP hD
                  have hP : va_P g.1 vwCl [(a14, .inl (g.2 0, 225, .inl mfresh)), (h0, .inr (12, [.int mthrown, .ref a1, .ref a2, .ref a3, .ref a4, .int mtaped, .ref a6, .int msize, .int mat, .int mfrom, .int mtoken, .int mvalue, .int x3, .int x4, .ref a14, .ref a15, .int mgoal, .int mgoalDays, .int mgoalHearer, .ref a19, .ref a20, .int mleastOrder, .int mwordsMany, .ref a23, .ref a24, .ref a25, .ref a26, .ref a27, .ref a28])), (a4, .inl (g.2 1, 900, .inl mtape))] H := hP
                  have hD : va_D A [(a14, .inl (g.2 0, 225, .inl mfresh)), (h0, .inr (12, [.int mthrown, .ref a1, .ref a2, .ref a3, .ref a4, .int mtaped, .ref a6, .int msize, .int mat, .int mfrom, .int mtoken, .int mvalue, .int x3, .int x4, .ref a14, .ref a15, .int mgoal, .int mgoalDays, .int mgoalHearer, .ref a19, .ref a20, .int mleastOrder, .int mwordsMany, .ref a23, .ref a24, .ref a25, .ref a26, .ref a27, .ref a28])), (a4, .inl (g.2 1, 900, .inl mtape))] := hD
                  refine lv_if_eq (tgt := 241) hx hb dX12_readNext_231 (by decide) (fun c21 => ?_) (fun c21 => ?_)
                  · have c21 := k_eq (a := (isF x3 mtoken mat mfrom mtape 26).toInt) (b := 0) rfl (by decide) c21
                    refine lv_aload_n hx hb dX12_readNext_241 rfl (lv_at hl 1 rfl) ?_
                    refine va_ldcS hx hb hown (hZ.2.2 27 _ rfl).1 dX12_readNext_242 ?_
                    refine call_V (As := [.ref (sa g 27)]) (rest := []) (wr := [(a14, .inl (g.2 0, 225, .inl mfresh))]) FC hKn hZ (k_X12_takes l g 27 h0 a1 a2 a3 a4 a6 a14 a15 a19 a20 a23 a24 a25 a26 a27 a28 mthrown mtaped msize mat mfrom mtoken mvalue x3 x4 mgoal mgoalDays mgoalHearer mleastOrder mwordsMany mtape (by omega) (by omega) (by omega) (by omega) (by omega) (by omega) (by omega) (by omega) (by omega) (by omega)) m_yX12_takes b_1128 (ci := 12) rfl rfl rfl hP hD hS hA [1, 2] [0] rfl (by decide) rfl (by decide) (by decide) rfl hl.1 rfl (Nat.le_of_ble_eq_true rfl) dX12_readNext_244 ⟨(Nat.le_of_ble_eq_true rfl), (Nat.le_of_ble_eq_true rfl)⟩ ⟨(Nat.le_of_ble_eq_true rfl), (Nat.le_of_ble_eq_true rfl)⟩ (fun u22 H locs q23 hP hD hS => ?_)
                    obtain ⟨q23_0, q23_1, q23_2, q23_3, q23_4, q23_5, q23_6, q23_7, q23_8⟩ := q23
                    have hP : va_P g.1 vwCl [(a14, .inl (g.2 0, 225, .inl mfresh)), (h0, .inr (12, [.int mthrown, .ref a1, .ref a2, .ref a3, .ref a4, .int mtaped, .ref a6, .int msize, .int (u22.1 1), .int (u22.1 2), .int (u22.1 3), .int (u22.1 4), .int x3, .int x4, .ref a14, .ref a15, .int mgoal, .int mgoalDays, .int mgoalHearer, .ref a19, .ref a20, .int mleastOrder, .int mwordsMany, .ref a23, .ref a24, .ref a25, .ref a26, .ref a27, .ref a28])), (a4, .inl (g.2 1, 900, .inl mtape))] H := hP
                    have hD : va_D A [(a14, .inl (g.2 0, 225, .inl mfresh)), (h0, .inr (12, [.int mthrown, .ref a1, .ref a2, .ref a3, .ref a4, .int mtaped, .ref a6, .int msize, .int (u22.1 1), .int (u22.1 2), .int (u22.1 3), .int (u22.1 4), .int x3, .int x4, .ref a14, .ref a15, .int mgoal, .int mgoalDays, .int mgoalHearer, .ref a19, .ref a20, .int mleastOrder, .int mwordsMany, .ref a23, .ref a24, .ref a25, .ref a26, .ref a27, .ref a28])), (a4, .inl (g.2 1, 900, .inl mtape))] := hD
                    refine W.eq (g2 := F0 m 247 ls [.int (u22.1 0)]) rfl ?_
                    rw [q23_5] at q23_0
                    rw [q23_5] at q23_6
                    rw [q23_5] at q23_8
                    refine tp_i (v := isF x3 mtoken mat mfrom mtape 27) q23_5 ?_
                    rcases (show (isF x3 mtoken mat mfrom mtape 27).toInt = 0 ∨ (isF x3 mtoken mat mfrom mtape 27).toInt = 1 by omega) with c24 | c24
                    · obtain ⟨w1, w2, w3, w4⟩ := q23_6 c24
                      rw [w1, w2, w3, w4] at hP hD
                      have hP : va_P g.1 vwCl [(a14, .inl (g.2 0, 225, .inl mfresh)), (h0, .inr (12, [.int mthrown, .ref a1, .ref a2, .ref a3, .ref a4, .int mtaped, .ref a6, .int msize, .int mat, .int mfrom, .int mtoken, .int mvalue, .int x3, .int x4, .ref a14, .ref a15, .int mgoal, .int mgoalDays, .int mgoalHearer, .ref a19, .ref a20, .int mleastOrder, .int mwordsMany, .ref a23, .ref a24, .ref a25, .ref a26, .ref a27, .ref a28])), (a4, .inl (g.2 1, 900, .inl mtape))] H := hP
                      have hD : va_D A [(a14, .inl (g.2 0, 225, .inl mfresh)), (h0, .inr (12, [.int mthrown, .ref a1, .ref a2, .ref a3, .ref a4, .int mtaped, .ref a6, .int msize, .int mat, .int mfrom, .int mtoken, .int mvalue, .int x3, .int x4, .ref a14, .ref a15, .int mgoal, .int mgoalDays, .int mgoalHearer, .ref a19, .ref a20, .int mleastOrder, .int mwordsMany, .ref a23, .ref a24, .ref a25, .ref a26, .ref a27, .ref a28])), (a4, .inl (g.2 1, 900, .inl mtape))] := hD
                      refine lv_if_eq (tgt := 257) hx hb dX12_readNext_247 (by decide) (fun c25 => ?_) (fun c25 => ?_)
                      · have c25 := k_eq (a := (isF x3 mtoken mat mfrom mtape 27).toInt) (b := 0) rfl (by decide) c25
                        refine lv_aload_n hx hb dX12_readNext_257 rfl (lv_at hl 1 rfl) ?_
                        refine va_ldcS hx hb hown (hZ.2.2 28 _ rfl).1 dX12_readNext_258 ?_
                        refine call_V (As := [.ref (sa g 28)]) (rest := []) (wr := [(a14, .inl (g.2 0, 225, .inl mfresh))]) FC hKn hZ (k_X12_takes l g 28 h0 a1 a2 a3 a4 a6 a14 a15 a19 a20 a23 a24 a25 a26 a27 a28 mthrown mtaped msize mat mfrom mtoken mvalue x3 x4 mgoal mgoalDays mgoalHearer mleastOrder mwordsMany mtape (by omega) (by omega) (by omega) (by omega) (by omega) (by omega) (by omega) (by omega) (by omega) (by omega)) m_yX12_takes b_1128 (ci := 12) rfl rfl rfl hP hD hS hA [1, 2] [0] rfl (by decide) rfl (by decide) (by decide) rfl hl.1 rfl (Nat.le_of_ble_eq_true rfl) dX12_readNext_260 ⟨(Nat.le_of_ble_eq_true rfl), (Nat.le_of_ble_eq_true rfl)⟩ ⟨(Nat.le_of_ble_eq_true rfl), (Nat.le_of_ble_eq_true rfl)⟩ (fun u26 H locs q27 hP hD hS => ?_)
                        obtain ⟨q27_0, q27_1, q27_2, q27_3, q27_4, q27_5, q27_6, q27_7, q27_8⟩ := q27
                        have hP : va_P g.1 vwCl [(a14, .inl (g.2 0, 225, .inl mfresh)), (h0, .inr (12, [.int mthrown, .ref a1, .ref a2, .ref a3, .ref a4, .int mtaped, .ref a6, .int msize, .int (u26.1 1), .int (u26.1 2), .int (u26.1 3), .int (u26.1 4), .int x3, .int x4, .ref a14, .ref a15, .int mgoal, .int mgoalDays, .int mgoalHearer, .ref a19, .ref a20, .int mleastOrder, .int mwordsMany, .ref a23, .ref a24, .ref a25, .ref a26, .ref a27, .ref a28])), (a4, .inl (g.2 1, 900, .inl mtape))] H := hP
                        have hD : va_D A [(a14, .inl (g.2 0, 225, .inl mfresh)), (h0, .inr (12, [.int mthrown, .ref a1, .ref a2, .ref a3, .ref a4, .int mtaped, .ref a6, .int msize, .int (u26.1 1), .int (u26.1 2), .int (u26.1 3), .int (u26.1 4), .int x3, .int x4, .ref a14, .ref a15, .int mgoal, .int mgoalDays, .int mgoalHearer, .ref a19, .ref a20, .int mleastOrder, .int mwordsMany, .ref a23, .ref a24, .ref a25, .ref a26, .ref a27, .ref a28])), (a4, .inl (g.2 1, 900, .inl mtape))] := hD
                        refine W.eq (g2 := F0 m 263 ls [.int (u26.1 0)]) rfl ?_
                        rw [q27_5] at q27_0
                        rw [q27_5] at q27_6
                        rw [q27_5] at q27_8
                        refine tp_i (v := isF x3 mtoken mat mfrom mtape 28) q27_5 ?_
                        rcases (show (isF x3 mtoken mat mfrom mtape 28).toInt = 0 ∨ (isF x3 mtoken mat mfrom mtape 28).toInt = 1 by omega) with c28 | c28
                        · obtain ⟨w1, w2, w3, w4⟩ := q27_6 c28
                          rw [w1, w2, w3, w4] at hP hD
                          have hP : va_P g.1 vwCl [(a14, .inl (g.2 0, 225, .inl mfresh)), (h0, .inr (12, [.int mthrown, .ref a1, .ref a2, .ref a3, .ref a4, .int mtaped, .ref a6, .int msize, .int mat, .int mfrom, .int mtoken, .int mvalue, .int x3, .int x4, .ref a14, .ref a15, .int mgoal, .int mgoalDays, .int mgoalHearer, .ref a19, .ref a20, .int mleastOrder, .int mwordsMany, .ref a23, .ref a24, .ref a25, .ref a26, .ref a27, .ref a28])), (a4, .inl (g.2 1, 900, .inl mtape))] H := hP
                          have hD : va_D A [(a14, .inl (g.2 0, 225, .inl mfresh)), (h0, .inr (12, [.int mthrown, .ref a1, .ref a2, .ref a3, .ref a4, .int mtaped, .ref a6, .int msize, .int mat, .int mfrom, .int mtoken, .int mvalue, .int x3, .int x4, .ref a14, .ref a15, .int mgoal, .int mgoalDays, .int mgoalHearer, .ref a19, .ref a20, .int mleastOrder, .int mwordsMany, .ref a23, .ref a24, .ref a25, .ref a26, .ref a27, .ref a28])), (a4, .inl (g.2 1, 900, .inl mtape))] := hD
                          refine lv_if_eq (tgt := 273) hx hb dX12_readNext_263 (by decide) (fun c29 => ?_) (fun c29 => ?_)
                          · have c29 := k_eq (a := (isF x3 mtoken mat mfrom mtape 28).toInt) (b := 0) rfl (by decide) c29
                            refine lv_aload_n hx hb dX12_readNext_273 rfl (lv_at hl 1 rfl) ?_
                            refine call_V (As := []) (rest := []) (wr := [(a14, .inl (g.2 0, 225, .inl mfresh))]) FC hKn hZ (k_X12_advance l g h0 a1 a2 a3 a4 a6 a14 a15 a19 a20 a23 a24 a25 a26 a27 a28 mthrown mtaped msize mat mfrom mtoken mvalue x3 x4 mgoal mgoalDays mgoalHearer mleastOrder mwordsMany mtape (by omega) (by omega) (by omega) (by omega) (by omega) (by omega) (by omega) (by omega) (by omega)) m_yX12_advance b_1127 (ci := 12) rfl rfl rfl hP hD hS hA [1, 2] [0] rfl (by decide) rfl (by decide) (by decide) rfl hl.1 rfl (Nat.le_of_ble_eq_true rfl) dX12_readNext_274 ⟨(Nat.le_of_ble_eq_true rfl), (Nat.le_of_ble_eq_true rfl)⟩ ⟨(Nat.le_of_ble_eq_true rfl), (Nat.le_of_ble_eq_true rfl)⟩ (fun u30 H locs q31 hP hD hS => ?_)
                            obtain ⟨q31_0, q31_1, q31_2, q31_3, q31_4, q31_5⟩ := q31
                            have hP : va_P g.1 vwCl [(a14, .inl (g.2 0, 225, .inl mfresh)), (h0, .inr (12, [.int mthrown, .ref a1, .ref a2, .ref a3, .ref a4, .int mtaped, .ref a6, .int msize, .int (u30.1 1), .int (u30.1 2), .int (u30.1 3), .int (u30.1 4), .int x3, .int x4, .ref a14, .ref a15, .int mgoal, .int mgoalDays, .int mgoalHearer, .ref a19, .ref a20, .int mleastOrder, .int mwordsMany, .ref a23, .ref a24, .ref a25, .ref a26, .ref a27, .ref a28])), (a4, .inl (g.2 1, 900, .inl mtape))] H := hP
                            have hD : va_D A [(a14, .inl (g.2 0, 225, .inl mfresh)), (h0, .inr (12, [.int mthrown, .ref a1, .ref a2, .ref a3, .ref a4, .int mtaped, .ref a6, .int msize, .int (u30.1 1), .int (u30.1 2), .int (u30.1 3), .int (u30.1 4), .int x3, .int x4, .ref a14, .ref a15, .int mgoal, .int mgoalDays, .int mgoalHearer, .ref a19, .ref a20, .int mleastOrder, .int mwordsMany, .ref a23, .ref a24, .ref a25, .ref a26, .ref a27, .ref a28])), (a4, .inl (g.2 1, 900, .inl mtape))] := hD
                            refine W.eq (g2 := F0 m 277 ls []) rfl ?_
                            refine lv_aload_n hx hb dX12_readNext_277 rfl (lv_at hl 1 rfl) ?_
                            refine call_V (As := []) (rest := []) (wr := []) FC hKn hZ (k_X12_readTells l g h0 a1 a2 a3 a4 a6 a14 a15 a19 a20 a23 a24 a25 a26 a27 a28 mthrown mtaped msize (u30.1 1) (u30.1 2) (u30.1 3) (u30.1 4) x3 x4 mgoal mgoalDays mgoalHearer mleastOrder mwordsMany mtape mfresh (by omega) (by omega) (by omega) (by omega) (by omega) (by omega) (by omega) (by omega) (by omega) i_mfresh) m_yX12_readTells b_1159 (ci := 12) rfl rfl rfl hP hD hS hA [1, 2, 0] [] rfl (by decide) rfl (by decide) (by decide) rfl hl.1 rfl (Nat.le_of_ble_eq_true rfl) dX12_readNext_278 ⟨(Nat.le_of_ble_eq_true rfl), (Nat.le_of_ble_eq_true rfl)⟩ ⟨(Nat.le_of_ble_eq_true rfl), (Nat.le_of_ble_eq_true rfl)⟩ (fun u32 H locs q33 hP hD hS => ?_)
                            obtain ⟨q33_0, q33_1, q33_2, q33_3, q33_4, q33_5, q33_6, q33_7, q33_8⟩ := q33
                            have hP : va_P g.1 vwCl [(h0, .inr (12, [.int mthrown, .ref a1, .ref a2, .ref a3, .ref a4, .int mtaped, .ref a6, .int msize, .int (u32.1 1), .int (u32.1 2), .int (u32.1 3), .int (u32.1 4), .int (u32.1 5), .int (u32.1 6), .ref a14, .ref a15, .int mgoal, .int mgoalDays, .int mgoalHearer, .ref a19, .ref a20, .int mleastOrder, .int mwordsMany, .ref a23, .ref a24, .ref a25, .ref a26, .ref a27, .ref a28])), (a4, .inl (g.2 1, 900, .inl mtape)), (a14, .inl (g.2 0, 225, .inl (u32.2.1 0)))] H := hP
                            have hD : va_D A [(h0, .inr (12, [.int mthrown, .ref a1, .ref a2, .ref a3, .ref a4, .int mtaped, .ref a6, .int msize, .int (u32.1 1), .int (u32.1 2), .int (u32.1 3), .int (u32.1 4), .int (u32.1 5), .int (u32.1 6), .ref a14, .ref a15, .int mgoal, .int mgoalDays, .int mgoalHearer, .ref a19, .ref a20, .int mleastOrder, .int mwordsMany, .ref a23, .ref a24, .ref a25, .ref a26, .ref a27, .ref a28])), (a4, .inl (g.2 1, 900, .inl mtape)), (a14, .inl (g.2 0, 225, .inl (u32.2.1 0)))] := hD
                            refine W.eq (g2 := F0 m 281 ls []) rfl ?_
                            exact rt_v FX ((fun k => match k with | 0 => 0 | 1 => u32.1 1 | 2 => u32.1 2 | 3 => u32.1 3 | 4 => u32.1 4 | 5 => u32.1 5 | 6 => u32.1 6 | _ => 0), (fun k => match k with | 0 => u32.2.1 0 | _ => fun _ => 0), (fun _ => fun _ => 0)) rfl ⟨(show 0 ≤ (u32.1 1).toInt ∧ (u32.1 1).toInt ≤ 900 by omega), (show 0 ≤ (u32.1 2).toInt ∧ (u32.1 2).toInt ≤ 900 by omega), (show 0 ≤ (u32.1 3).toInt ∧ (u32.1 3).toInt ≤ 4 by omega), (show 0 ≤ (u32.1 4).toInt ∧ (u32.1 4).toInt ≤ 99999 by omega), (show 0 ≤ (u32.1 5).toInt ∧ (u32.1 5).toInt ≤ 3 by omega), q33_5, (show 5 * mat.toInt - mtoken.toInt ≤ 5 * (u32.1 1).toInt - (u32.1 3).toInt by omega), (show (u32.1 5).toInt = 0 → mfaultKind.toInt = 0 by omega), (show (((u32.2.1 0)) 0).toInt = (mfresh 0).toInt ∧ (((u32.2.1 0)) 2).toInt = (mfresh 2).toInt from (show ((u32.2.1 0) 0).toInt = (mfresh 0).toInt ∧ ((u32.2.1 0) 2).toInt = (mfresh 2).toInt by omega))⟩ (hP.sub [0, 1, 2] rfl) (hD.sub [0, 1, 2] (by decide) rfl) hS (Nat.le_of_ble_eq_true rfl) (Nat.le_of_ble_eq_true rfl) dX12_readNext_281
                          · have c29 := k_ne (a := (isF x3 mtoken mat mfrom mtape 28).toInt) (b := 0) rfl (by decide) c29
                            exfalso; omega
                        · skip
                          refine lv_if_eq (tgt := 273) hx hb dX12_readNext_263 (by decide) (fun c34 => ?_) (fun c34 => ?_)
                          · have c34 := k_eq (a := (isF x3 mtoken mat mfrom mtape 28).toInt) (b := 0) rfl (by decide) c34
                            exfalso; omega
                          · have c34 := k_ne (a := (isF x3 mtoken mat mfrom mtape 28).toInt) (b := 0) rfl (by decide) c34
                            refine lv_aload_n hx hb dX12_readNext_266 rfl (lv_at hl 1 rfl) ?_
                            refine call_V (As := []) (rest := []) (wr := []) FC hKn hZ (k_X12_readNews l g h0 a1 a2 a3 a4 a6 a14 a15 a19 a20 a23 a24 a25 a26 a27 a28 mthrown mtaped msize (u26.1 1) (u26.1 2) (u26.1 3) (u26.1 4) x3 x4 mgoal mgoalDays mgoalHearer mleastOrder mwordsMany mtape mfresh (by omega) (by omega) (by omega) (by omega) (by omega) (by omega) (by omega) (by omega) (by omega) i_mfresh (by omega)) m_yX12_readNews b_1160 (ci := 12) rfl rfl rfl hP hD hS hA [1, 2, 0] [] rfl (by decide) rfl (by decide) (by decide) rfl hl.1 rfl (Nat.le_of_ble_eq_true rfl) dX12_readNext_267 ⟨(Nat.le_of_ble_eq_true rfl), (Nat.le_of_ble_eq_true rfl)⟩ ⟨(Nat.le_of_ble_eq_true rfl), (Nat.le_of_ble_eq_true rfl)⟩ (fun u35 H locs q36 hP hD hS => ?_)
                            obtain ⟨q36_0, q36_1, q36_2, q36_3, q36_4, q36_5, q36_6, q36_7, q36_8⟩ := q36
                            have hP : va_P g.1 vwCl [(h0, .inr (12, [.int mthrown, .ref a1, .ref a2, .ref a3, .ref a4, .int mtaped, .ref a6, .int msize, .int (u35.1 1), .int (u35.1 2), .int (u35.1 3), .int (u35.1 4), .int (u35.1 5), .int (u35.1 6), .ref a14, .ref a15, .int mgoal, .int mgoalDays, .int mgoalHearer, .ref a19, .ref a20, .int mleastOrder, .int mwordsMany, .ref a23, .ref a24, .ref a25, .ref a26, .ref a27, .ref a28])), (a4, .inl (g.2 1, 900, .inl mtape)), (a14, .inl (g.2 0, 225, .inl (u35.2.1 0)))] H := hP
                            have hD : va_D A [(h0, .inr (12, [.int mthrown, .ref a1, .ref a2, .ref a3, .ref a4, .int mtaped, .ref a6, .int msize, .int (u35.1 1), .int (u35.1 2), .int (u35.1 3), .int (u35.1 4), .int (u35.1 5), .int (u35.1 6), .ref a14, .ref a15, .int mgoal, .int mgoalDays, .int mgoalHearer, .ref a19, .ref a20, .int mleastOrder, .int mwordsMany, .ref a23, .ref a24, .ref a25, .ref a26, .ref a27, .ref a28])), (a4, .inl (g.2 1, 900, .inl mtape)), (a14, .inl (g.2 0, 225, .inl (u35.2.1 0)))] := hD
                            refine W.eq (g2 := F0 m 270 ls []) rfl ?_
                            refine lv_goto (tgt := 281) hx hb dX12_readNext_270 (by decide) ?_
                            exact rt_v FX ((fun k => match k with | 0 => 0 | 1 => u35.1 1 | 2 => u35.1 2 | 3 => u35.1 3 | 4 => u35.1 4 | 5 => u35.1 5 | 6 => u35.1 6 | _ => 0), (fun k => match k with | 0 => u35.2.1 0 | _ => fun _ => 0), (fun _ => fun _ => 0)) rfl ⟨(show 0 ≤ (u35.1 1).toInt ∧ (u35.1 1).toInt ≤ 900 by omega), (show 0 ≤ (u35.1 2).toInt ∧ (u35.1 2).toInt ≤ 900 by omega), (show 0 ≤ (u35.1 3).toInt ∧ (u35.1 3).toInt ≤ 4 by omega), (show 0 ≤ (u35.1 4).toInt ∧ (u35.1 4).toInt ≤ 99999 by omega), (show 0 ≤ (u35.1 5).toInt ∧ (u35.1 5).toInt ≤ 3 by omega), q36_5, (show 5 * mat.toInt - mtoken.toInt ≤ 5 * (u35.1 1).toInt - (u35.1 3).toInt by omega), (show (u35.1 5).toInt = 0 → mfaultKind.toInt = 0 by omega), (show (((u35.2.1 0)) 0).toInt = (mfresh 0).toInt ∧ (((u35.2.1 0)) 2).toInt = (mfresh 2).toInt from (show ((u35.2.1 0) 0).toInt = (mfresh 0).toInt ∧ ((u35.2.1 0) 2).toInt = (mfresh 2).toInt by omega))⟩ (hP.sub [0, 1, 2] rfl) (hD.sub [0, 1, 2] (by decide) rfl) hS (Nat.le_of_ble_eq_true rfl) (Nat.le_of_ble_eq_true rfl) dX12_readNext_281
                      · have c25 := k_ne (a := (isF x3 mtoken mat mfrom mtape 27).toInt) (b := 0) rfl (by decide) c25
                        exfalso; omega
                    · skip
                      refine lv_if_eq (tgt := 257) hx hb dX12_readNext_247 (by decide) (fun c37 => ?_) (fun c37 => ?_)
                      · have c37 := k_eq (a := (isF x3 mtoken mat mfrom mtape 27).toInt) (b := 0) rfl (by decide) c37
                        exfalso; omega
                      · have c37 := k_ne (a := (isF x3 mtoken mat mfrom mtape 27).toInt) (b := 0) rfl (by decide) c37
                        refine lv_aload_n hx hb dX12_readNext_250 rfl (lv_at hl 1 rfl) ?_
                        refine call_V (As := []) (rest := []) (wr := []) FC hKn hZ (k_X12_readPlan l g h0 a1 a2 a3 a4 a6 a14 a15 a19 a20 a23 a24 a25 a26 a27 a28 mthrown mtaped msize (u22.1 1) (u22.1 2) (u22.1 3) (u22.1 4) x3 x4 mgoal mgoalDays mgoalHearer mleastOrder mwordsMany mtape mfresh (by omega) (by omega) (by omega) (by omega) (by omega) (by omega) (by omega) (by omega) (by omega) i_mfresh (by omega)) m_yX12_readPlan b_1161 (ci := 12) rfl rfl rfl hP hD hS hA [1, 2, 0] [] rfl (by decide) rfl (by decide) (by decide) rfl hl.1 rfl (Nat.le_of_ble_eq_true rfl) dX12_readNext_251 ⟨(Nat.le_of_ble_eq_true rfl), (Nat.le_of_ble_eq_true rfl)⟩ ⟨(Nat.le_of_ble_eq_true rfl), (Nat.le_of_ble_eq_true rfl)⟩ (fun u38 H locs q39 hP hD hS => ?_)
                        obtain ⟨q39_0, q39_1, q39_2, q39_3, q39_4, q39_5, q39_6, q39_7, q39_8⟩ := q39
                        have hP : va_P g.1 vwCl [(h0, .inr (12, [.int mthrown, .ref a1, .ref a2, .ref a3, .ref a4, .int mtaped, .ref a6, .int msize, .int (u38.1 1), .int (u38.1 2), .int (u38.1 3), .int (u38.1 4), .int (u38.1 5), .int (u38.1 6), .ref a14, .ref a15, .int mgoal, .int mgoalDays, .int mgoalHearer, .ref a19, .ref a20, .int mleastOrder, .int mwordsMany, .ref a23, .ref a24, .ref a25, .ref a26, .ref a27, .ref a28])), (a4, .inl (g.2 1, 900, .inl mtape)), (a14, .inl (g.2 0, 225, .inl (u38.2.1 0)))] H := hP
                        have hD : va_D A [(h0, .inr (12, [.int mthrown, .ref a1, .ref a2, .ref a3, .ref a4, .int mtaped, .ref a6, .int msize, .int (u38.1 1), .int (u38.1 2), .int (u38.1 3), .int (u38.1 4), .int (u38.1 5), .int (u38.1 6), .ref a14, .ref a15, .int mgoal, .int mgoalDays, .int mgoalHearer, .ref a19, .ref a20, .int mleastOrder, .int mwordsMany, .ref a23, .ref a24, .ref a25, .ref a26, .ref a27, .ref a28])), (a4, .inl (g.2 1, 900, .inl mtape)), (a14, .inl (g.2 0, 225, .inl (u38.2.1 0)))] := hD
                        refine W.eq (g2 := F0 m 254 ls []) rfl ?_
                        refine lv_goto (tgt := 281) hx hb dX12_readNext_254 (by decide) ?_
                        exact rt_v FX ((fun k => match k with | 0 => 0 | 1 => u38.1 1 | 2 => u38.1 2 | 3 => u38.1 3 | 4 => u38.1 4 | 5 => u38.1 5 | 6 => u38.1 6 | _ => 0), (fun k => match k with | 0 => u38.2.1 0 | _ => fun _ => 0), (fun _ => fun _ => 0)) rfl ⟨(show 0 ≤ (u38.1 1).toInt ∧ (u38.1 1).toInt ≤ 900 by omega), (show 0 ≤ (u38.1 2).toInt ∧ (u38.1 2).toInt ≤ 900 by omega), (show 0 ≤ (u38.1 3).toInt ∧ (u38.1 3).toInt ≤ 4 by omega), (show 0 ≤ (u38.1 4).toInt ∧ (u38.1 4).toInt ≤ 99999 by omega), (show 0 ≤ (u38.1 5).toInt ∧ (u38.1 5).toInt ≤ 3 by omega), q39_5, (show 5 * mat.toInt - mtoken.toInt ≤ 5 * (u38.1 1).toInt - (u38.1 3).toInt by omega), (show (u38.1 5).toInt = 0 → mfaultKind.toInt = 0 by omega), (show (((u38.2.1 0)) 0).toInt = (mfresh 0).toInt ∧ (((u38.2.1 0)) 2).toInt = (mfresh 2).toInt from (show ((u38.2.1 0) 0).toInt = (mfresh 0).toInt ∧ ((u38.2.1 0) 2).toInt = (mfresh 2).toInt by omega))⟩ (hP.sub [0, 1, 2] rfl) (hD.sub [0, 1, 2] (by decide) rfl) hS (Nat.le_of_ble_eq_true rfl) (Nat.le_of_ble_eq_true rfl) dX12_readNext_281
                  · have c21 := k_ne (a := (isF x3 mtoken mat mfrom mtape 26).toInt) (b := 0) rfl (by decide) c21
                    exfalso; omega
                · skip
                  refine lv_if_eq (tgt := 241) hx hb dX12_readNext_231 (by decide) (fun c40 => ?_) (fun c40 => ?_)
                  · have c40 := k_eq (a := (isF x3 mtoken mat mfrom mtape 26).toInt) (b := 0) rfl (by decide) c40
                    exfalso; omega
                  · have c40 := k_ne (a := (isF x3 mtoken mat mfrom mtape 26).toInt) (b := 0) rfl (by decide) c40
                    refine lv_aload_n hx hb dX12_readNext_234 rfl (lv_at hl 1 rfl) ?_
                    refine call_V (As := []) (rest := []) (wr := []) FC hKn hZ (k_X12_readWord l g h0 a1 a2 a3 a4 a6 a14 a15 a19 a20 a23 a24 a25 a26 a27 a28 mthrown mtaped msize (u18.1 1) (u18.1 2) (u18.1 3) (u18.1 4) x3 x4 mgoal mgoalDays mgoalHearer mleastOrder mwordsMany mtape mfresh (by omega) (by omega) (by omega) (by omega) (by omega) (by omega) (by omega) (by omega) (by omega) i_mfresh (by omega)) m_yX12_readWord b_1162 (ci := 12) rfl rfl rfl hP hD hS hA [1, 2, 0] [] rfl (by decide) rfl (by decide) (by decide) rfl hl.1 rfl (Nat.le_of_ble_eq_true rfl) dX12_readNext_235 ⟨(Nat.le_of_ble_eq_true rfl), (Nat.le_of_ble_eq_true rfl)⟩ ⟨(Nat.le_of_ble_eq_true rfl), (Nat.le_of_ble_eq_true rfl)⟩ (fun u41 H locs q42 hP hD hS => ?_)
                    obtain ⟨q42_0, q42_1, q42_2, q42_3, q42_4, q42_5, q42_6, q42_7, q42_8⟩ := q42
                    have hP : va_P g.1 vwCl [(h0, .inr (12, [.int mthrown, .ref a1, .ref a2, .ref a3, .ref a4, .int mtaped, .ref a6, .int msize, .int (u41.1 1), .int (u41.1 2), .int (u41.1 3), .int (u41.1 4), .int (u41.1 5), .int (u41.1 6), .ref a14, .ref a15, .int mgoal, .int mgoalDays, .int mgoalHearer, .ref a19, .ref a20, .int mleastOrder, .int mwordsMany, .ref a23, .ref a24, .ref a25, .ref a26, .ref a27, .ref a28])), (a4, .inl (g.2 1, 900, .inl mtape)), (a14, .inl (g.2 0, 225, .inl (u41.2.1 0)))] H := hP
                    have hD : va_D A [(h0, .inr (12, [.int mthrown, .ref a1, .ref a2, .ref a3, .ref a4, .int mtaped, .ref a6, .int msize, .int (u41.1 1), .int (u41.1 2), .int (u41.1 3), .int (u41.1 4), .int (u41.1 5), .int (u41.1 6), .ref a14, .ref a15, .int mgoal, .int mgoalDays, .int mgoalHearer, .ref a19, .ref a20, .int mleastOrder, .int mwordsMany, .ref a23, .ref a24, .ref a25, .ref a26, .ref a27, .ref a28])), (a4, .inl (g.2 1, 900, .inl mtape)), (a14, .inl (g.2 0, 225, .inl (u41.2.1 0)))] := hD
                    refine W.eq (g2 := F0 m 238 ls []) rfl ?_
                    refine lv_goto (tgt := 281) hx hb dX12_readNext_238 (by decide) ?_
                    exact rt_v FX ((fun k => match k with | 0 => 0 | 1 => u41.1 1 | 2 => u41.1 2 | 3 => u41.1 3 | 4 => u41.1 4 | 5 => u41.1 5 | 6 => u41.1 6 | _ => 0), (fun k => match k with | 0 => u41.2.1 0 | _ => fun _ => 0), (fun _ => fun _ => 0)) rfl ⟨(show 0 ≤ (u41.1 1).toInt ∧ (u41.1 1).toInt ≤ 900 by omega), (show 0 ≤ (u41.1 2).toInt ∧ (u41.1 2).toInt ≤ 900 by omega), (show 0 ≤ (u41.1 3).toInt ∧ (u41.1 3).toInt ≤ 4 by omega), (show 0 ≤ (u41.1 4).toInt ∧ (u41.1 4).toInt ≤ 99999 by omega), (show 0 ≤ (u41.1 5).toInt ∧ (u41.1 5).toInt ≤ 3 by omega), q42_5, (show 5 * mat.toInt - mtoken.toInt ≤ 5 * (u41.1 1).toInt - (u41.1 3).toInt by omega), (show (u41.1 5).toInt = 0 → mfaultKind.toInt = 0 by omega), (show (((u41.2.1 0)) 0).toInt = (mfresh 0).toInt ∧ (((u41.2.1 0)) 2).toInt = (mfresh 2).toInt from (show ((u41.2.1 0) 0).toInt = (mfresh 0).toInt ∧ ((u41.2.1 0) 2).toInt = (mfresh 2).toInt by omega))⟩ (hP.sub [0, 1, 2] rfl) (hD.sub [0, 1, 2] (by decide) rfl) hS (Nat.le_of_ble_eq_true rfl) (Nat.le_of_ble_eq_true rfl) dX12_readNext_281
              · have c17 := k_ne (a := (isF x3 mtoken mat mfrom mtape 25).toInt) (b := 0) rfl (by decide) c17
                exfalso; omega
            · skip
              refine lv_if_eq (tgt := 225) hx hb dX12_readNext_215 (by decide) (fun c43 => ?_) (fun c43 => ?_)
              · have c43 := k_eq (a := (isF x3 mtoken mat mfrom mtape 25).toInt) (b := 0) rfl (by decide) c43
                exfalso; omega
              · have c43 := k_ne (a := (isF x3 mtoken mat mfrom mtape 25).toInt) (b := 0) rfl (by decide) c43
                refine lv_aload_n hx hb dX12_readNext_218 rfl (lv_at hl 1 rfl) ?_
                refine call_V (As := []) (rest := []) (wr := []) FC hKn hZ (k_X12_readHearer l g h0 a1 a2 a3 a4 a6 a14 a15 a19 a20 a23 a24 a25 a26 a27 a28 mthrown mtaped msize (u14.1 1) (u14.1 2) (u14.1 3) (u14.1 4) x3 x4 mgoal mgoalDays mgoalHearer mleastOrder mwordsMany mtape mfresh (by omega) (by omega) (by omega) (by omega) (by omega) (by omega) (by omega) (by omega) (by omega) i_mfresh (by omega)) m_yX12_readHearer b_1163 (ci := 12) rfl rfl rfl hP hD hS hA [1, 2, 0] [] rfl (by decide) rfl (by decide) (by decide) rfl hl.1 rfl (Nat.le_of_ble_eq_true rfl) dX12_readNext_219 ⟨(Nat.le_of_ble_eq_true rfl), (Nat.le_of_ble_eq_true rfl)⟩ ⟨(Nat.le_of_ble_eq_true rfl), (Nat.le_of_ble_eq_true rfl)⟩ (fun u44 H locs q45 hP hD hS => ?_)
                obtain ⟨q45_0, q45_1, q45_2, q45_3, q45_4, q45_5, q45_6, q45_7, q45_8⟩ := q45
                have hP : va_P g.1 vwCl [(h0, .inr (12, [.int mthrown, .ref a1, .ref a2, .ref a3, .ref a4, .int mtaped, .ref a6, .int msize, .int (u44.1 1), .int (u44.1 2), .int (u44.1 3), .int (u44.1 4), .int (u44.1 5), .int (u44.1 6), .ref a14, .ref a15, .int mgoal, .int mgoalDays, .int mgoalHearer, .ref a19, .ref a20, .int mleastOrder, .int mwordsMany, .ref a23, .ref a24, .ref a25, .ref a26, .ref a27, .ref a28])), (a4, .inl (g.2 1, 900, .inl mtape)), (a14, .inl (g.2 0, 225, .inl (u44.2.1 0)))] H := hP
                have hD : va_D A [(h0, .inr (12, [.int mthrown, .ref a1, .ref a2, .ref a3, .ref a4, .int mtaped, .ref a6, .int msize, .int (u44.1 1), .int (u44.1 2), .int (u44.1 3), .int (u44.1 4), .int (u44.1 5), .int (u44.1 6), .ref a14, .ref a15, .int mgoal, .int mgoalDays, .int mgoalHearer, .ref a19, .ref a20, .int mleastOrder, .int mwordsMany, .ref a23, .ref a24, .ref a25, .ref a26, .ref a27, .ref a28])), (a4, .inl (g.2 1, 900, .inl mtape)), (a14, .inl (g.2 0, 225, .inl (u44.2.1 0)))] := hD
                refine W.eq (g2 := F0 m 222 ls []) rfl ?_
                refine lv_goto (tgt := 281) hx hb dX12_readNext_222 (by decide) ?_
                exact rt_v FX ((fun k => match k with | 0 => 0 | 1 => u44.1 1 | 2 => u44.1 2 | 3 => u44.1 3 | 4 => u44.1 4 | 5 => u44.1 5 | 6 => u44.1 6 | _ => 0), (fun k => match k with | 0 => u44.2.1 0 | _ => fun _ => 0), (fun _ => fun _ => 0)) rfl ⟨(show 0 ≤ (u44.1 1).toInt ∧ (u44.1 1).toInt ≤ 900 by omega), (show 0 ≤ (u44.1 2).toInt ∧ (u44.1 2).toInt ≤ 900 by omega), (show 0 ≤ (u44.1 3).toInt ∧ (u44.1 3).toInt ≤ 4 by omega), (show 0 ≤ (u44.1 4).toInt ∧ (u44.1 4).toInt ≤ 99999 by omega), (show 0 ≤ (u44.1 5).toInt ∧ (u44.1 5).toInt ≤ 3 by omega), q45_5, (show 5 * mat.toInt - mtoken.toInt ≤ 5 * (u44.1 1).toInt - (u44.1 3).toInt by omega), (show (u44.1 5).toInt = 0 → mfaultKind.toInt = 0 by omega), (show (((u44.2.1 0)) 0).toInt = (mfresh 0).toInt ∧ (((u44.2.1 0)) 2).toInt = (mfresh 2).toInt from (show ((u44.2.1 0) 0).toInt = (mfresh 0).toInt ∧ ((u44.2.1 0) 2).toInt = (mfresh 2).toInt by omega))⟩ (hP.sub [0, 1, 2] rfl) (hD.sub [0, 1, 2] (by decide) rfl) hS (Nat.le_of_ble_eq_true rfl) (Nat.le_of_ble_eq_true rfl) dX12_readNext_281
          · have c13 := k_ne (a := (isF x3 mtoken mat mfrom mtape 24).toInt) (b := 0) rfl (by decide) c13
            exfalso; omega
        · skip
          refine lv_if_eq (tgt := 209) hx hb dX12_readNext_169 (by decide) (fun c46 => ?_) (fun c46 => ?_)
          · have c46 := k_eq (a := (isF x3 mtoken mat mfrom mtape 24).toInt) (b := 0) rfl (by decide) c46
            exfalso; omega
          · have c46 := k_ne (a := (isF x3 mtoken mat mfrom mtape 24).toInt) (b := 0) rfl (by decide) c46
            refine lv_iconst (v := 0) hx hb dX12_readNext_172 (by decide) ?_
            refine lv_istore_n (lv' := [(2, .int 0), (1, .int x1), (0, .ref h0)]) hx hb dX12_readNext_173 rfl hl (by decide) rfl (fun ls hl => ?_)
            have lp169 : ∀ (n171 : Nat) (x157 : Int32) (x158 : Nat → Int32) (x159 : Int32) (x160 : Int32) (x161 : Int32) (x162 : Int32) (x163 : Int32) (x164 : Int32) (H : Heap) (locs : List Loc) (ls : Array Slot), 0 ≤ x157.toInt ∧ x157.toInt ≤ 8 → wok x158 → 0 ≤ x159.toInt ∧ x159.toInt ≤ 900 → 0 ≤ x160.toInt ∧ x160.toInt ≤ 900 → 0 ≤ x161.toInt ∧ x161.toInt ≤ 4 → 0 ≤ x162.toInt ∧ x162.toInt ≤ 99999 → 0 ≤ x163.toInt ∧ x163.toInt ≤ 3 → 5 * mat.toInt - mtoken.toInt ≤ 5 * x159.toInt - x161.toInt → (x163.toInt = 0 → mfaultKind.toInt = 0) → (x158 0).toInt = (mfresh 0).toInt → (x158 2).toInt = (mfresh 2).toInt → (8 - x157.toInt).toNat < n171 → va_P g.1 vwCl [(a14, .inl (g.2 0, 225, .inl x158)), (h0, .inr (12, [.int mthrown, .ref a1, .ref a2, .ref a3, .ref a4, .int mtaped, .ref a6, .int msize, .int x159, .int x160, .int x161, .int x162, .int x163, .int x164, .ref a14, .ref a15, .int mgoal, .int mgoalDays, .int mgoalHearer, .ref a19, .ref a20, .int mleastOrder, .int mwordsMany, .ref a23, .ref a24, .ref a25, .ref a26, .ref a27, .ref a28])), (a4, .inl (g.2 1, 900, .inl mtape))] H → va_D A [(a14, .inl (g.2 0, 225, .inl x158)), (h0, .inr (12, [.int mthrown, .ref a1, .ref a2, .ref a3, .ref a4, .int mtaped, .ref a6, .int msize, .int x159, .int x160, .int x161, .int x162, .int x163, .int x164, .ref a14, .ref a15, .int mgoal, .int mgoalDays, .int mgoalHearer, .ref a19, .ref a20, .int mleastOrder, .int mwordsMany, .ref a23, .ref a24, .ref a25, .ref a26, .ref a27, .ref a28])), (a4, .inl (g.2 1, 900, .inl mtape))] → va_S A s.heap H locs → lv_has ls 3 [(2, .int x157), (1, .int x1), (0, .ref h0)] → W p l e { frames := 9, cells := 0, slots := 0, locals := 197 } s m ([.ref h0].toArray) below meth c H locs 0 0 (MQ below (QX (S := (Nat → Int32) × (Nat → Nat → Int32) × (Nat → Nat → Int64)) (fun _ => none) (fun u => (0 ≤ (u.1 1).toInt ∧ (u.1 1).toInt ≤ 900) ∧ (0 ≤ (u.1 2).toInt ∧ (u.1 2).toInt ≤ 900) ∧ (0 ≤ (u.1 3).toInt ∧ (u.1 3).toInt ≤ 4) ∧ (0 ≤ (u.1 4).toInt ∧ (u.1 4).toInt ≤ 99999) ∧ (0 ≤ (u.1 5).toInt ∧ (u.1 5).toInt ≤ 3) ∧ (wok (u.2.1 0)) ∧ (5 * mat.toInt - mtoken.toInt ≤ 5 * (u.1 1).toInt - (u.1 3).toInt) ∧ ((u.1 5).toInt = 0 → mfaultKind.toInt = 0) ∧ (((u.2.1 0) 0).toInt = (mfresh 0).toInt ∧ ((u.2.1 0) 2).toInt = (mfresh 2).toInt)) g (fun u => [(h0, .inr (12, [.int mthrown, .ref a1, .ref a2, .ref a3, .ref a4, .int mtaped, .ref a6, .int msize, .int (u.1 1), .int (u.1 2), .int (u.1 3), .int (u.1 4), .int (u.1 5), .int (u.1 6), .ref a14, .ref a15, .int mgoal, .int mgoalDays, .int mgoalHearer, .ref a19, .ref a20, .int mleastOrder, .int mwordsMany, .ref a23, .ref a24, .ref a25, .ref a26, .ref a27, .ref a28])), (a4, .inl (g.2 1, 900, .inl mtape)), (a14, .inl (g.2 0, 225, .inl (u.2.1 0)))]) A) ([.ref h0].toArray) s 0 0 A) (F0 m 174 ls []) := by
              intro n171
              induction n171 with
              | zero =>
                intro x157 x158 x159 x160 x161 x162 x163 x164 H locs ls h_x157 h_x158 h_x159 h_x160 h_x161 h_x162 h_x163 hi165 hi166 hi167 hi168 hn172
                exact absurd hn172 (Nat.not_lt_zero _)
              | succ n171 ih170 =>
                intro x157 x158 x159 x160 x161 x162 x163 x164 H locs ls h_x157 h_x158 h_x159 h_x160 h_x161 h_x162 h_x163 hi165 hi166 hi167 hi168 hn172 hP hD hS hl
                refine lv_iload_n hx hb dX12_readNext_174 rfl (lv_at hl 0 rfl) ?_
                refine lv_aload_n hx hb dX12_readNext_175 rfl (lv_at hl 2 rfl) ?_
                refine g_get (C := RX12) (T := TX12) (N := 29) (ci := 12) (v := .ref a14) FC hKn hP i_X12 1 rfl rfl 14 (by decide) b_1132 rfl dX12_readNext_176 ?_
                refine lv_iconst (v := 0) hx hb dX12_readNext_179 (by decide) ?_
                refine va_iald hx hb hKn.1 hP 0 0 rfl rfl (by unfold vp_in; decide) dX12_readNext_180 ?_
                have kc0 : (0 : Int32).toInt = 0 := by decide
                refine lv_topi (fun z173 e_z173 => ?_)
                have t_z173 : 0 ≤ z173.toInt ∧ z173.toInt ≤ 8 := by rw [e_z173]; exact wk_0 h_x158
                have q_z173 : z173.toInt = (x158 0).toInt := by rw [e_z173]; rfl
                refine lv_icmp_ge (tgt := 206) hx hb dX12_readNext_181 (by decide) (fun c174 => ?_) (fun c174 => ?_)
                · have c174 := k_le (a := z173.toInt) (b := x157.toInt) rfl rfl c174
                  refine lv_goto (tgt := 281) hx hb dX12_readNext_206 (by decide) ?_
                  exact rt_v FX ((fun k => match k with | 0 => 0 | 1 => x159 | 2 => x160 | 3 => x161 | 4 => x162 | 5 => x163 | 6 => x164 | _ => 0), (fun k => match k with | 0 => x158 | _ => fun _ => 0), (fun _ => fun _ => 0)) rfl ⟨(show 0 ≤ x159.toInt ∧ x159.toInt ≤ 900 by omega), (show 0 ≤ x160.toInt ∧ x160.toInt ≤ 900 by omega), (show 0 ≤ x161.toInt ∧ x161.toInt ≤ 4 by omega), (show 0 ≤ x162.toInt ∧ x162.toInt ≤ 99999 by omega), (show 0 ≤ x163.toInt ∧ x163.toInt ≤ 3 by omega), h_x158, (show 5 * mat.toInt - mtoken.toInt ≤ 5 * (x159).toInt - (x161).toInt by omega), (show (x163).toInt = 0 → mfaultKind.toInt = 0 by omega), (show ((x158) 0).toInt = (mfresh 0).toInt ∧ ((x158) 2).toInt = (mfresh 2).toInt from (show (x158 0).toInt = (mfresh 0).toInt ∧ (x158 2).toInt = (mfresh 2).toInt by omega))⟩ (hP.sub [1, 2, 0] rfl) (hD.sub [1, 2, 0] (by decide) rfl) hS (Nat.le_of_ble_eq_true rfl) (Nat.le_of_ble_eq_true rfl) dX12_readNext_281
                · have c174 := k_nle (a := z173.toInt) (b := x157.toInt) rfl rfl c174
                  refine lv_aload_n hx hb dX12_readNext_184 rfl (lv_at hl 2 rfl) ?_
                  refine g_get (C := RX12) (T := TX12) (N := 29) (ci := 12) (v := .ref a14) FC hKn hP i_X12 1 rfl rfl 14 (by decide) b_1132 rfl dX12_readNext_185 ?_
                  refine lv_bipush (v := 11) hx hb dX12_readNext_188 (by decide) ?_
                  refine lv_iload_n hx hb dX12_readNext_190 rfl (lv_at hl 0 rfl) ?_
                  refine lv_iadd hx hb dX12_readNext_191 ?_
                  have kc11 : (11 : Int32).toInt = 11 := by decide
                  refine lv_topi (fun z175 e_z175 => ?_)
                  have t_z175 : z175.toInt = ((11 : Int32)).toInt + x157.toInt := by rw [e_z175]; exact fb_addI (by omega) (by omega)
                  refine lv_aload_n hx hb dX12_readNext_192 rfl (lv_at hl 2 rfl) ?_
                  refine lv_iconst (v := 0) hx hb dX12_readNext_193 (by decide) ?_
                  refine lv_bipush (v := 99) hx hb dX12_readNext_194 (by decide) ?_
                  have kc99 : (99 : Int32).toInt = 99 := by decide
                  refine call_V (As := [.int 0, .int 99]) (rest := [.int z175, .ref a14]) (wr := [(a14, .inl (g.2 0, 225, .inl x158))]) FC hKn hZ (k_X12_number l g h0 a1 a2 a3 a4 a6 a14 a15 a19 a20 a23 a24 a25 a26 a27 a28 mthrown mtaped msize x159 x160 x161 x162 x163 x164 mgoal mgoalDays mgoalHearer mleastOrder mwordsMany mtape ((0 : Int32)) ((99 : Int32)) (by omega) (by omega) (by omega) (by omega) (by omega) (by omega) (by omega) (by omega) (by omega)) m_yX12_number b_1131 (ci := 12) rfl rfl rfl hP hD hS hA [1, 2] [0] rfl (by decide) rfl (by decide) (by decide) rfl hl.1 rfl (Nat.le_of_ble_eq_true rfl) dX12_readNext_196 ⟨(Nat.le_of_ble_eq_true rfl), (Nat.le_of_ble_eq_true rfl)⟩ ⟨(Nat.le_of_ble_eq_true rfl), (Nat.le_of_ble_eq_true rfl)⟩ (fun u176 H locs q177 hP hD hS => ?_)
                  obtain ⟨q177_0, q177_1, q177_2, q177_3, q177_4, q177_5, q177_6, q177_7, q177_8, q177_9⟩ := q177
                  have hP : va_P g.1 vwCl [(a14, .inl (g.2 0, 225, .inl x158)), (h0, .inr (12, [.int mthrown, .ref a1, .ref a2, .ref a3, .ref a4, .int mtaped, .ref a6, .int msize, .int (u176.1 1), .int (u176.1 2), .int (u176.1 3), .int (u176.1 4), .int (u176.1 5), .int (u176.1 6), .ref a14, .ref a15, .int mgoal, .int mgoalDays, .int mgoalHearer, .ref a19, .ref a20, .int mleastOrder, .int mwordsMany, .ref a23, .ref a24, .ref a25, .ref a26, .ref a27, .ref a28])), (a4, .inl (g.2 1, 900, .inl mtape))] H := hP
                  have hD : va_D A [(a14, .inl (g.2 0, 225, .inl x158)), (h0, .inr (12, [.int mthrown, .ref a1, .ref a2, .ref a3, .ref a4, .int mtaped, .ref a6, .int msize, .int (u176.1 1), .int (u176.1 2), .int (u176.1 3), .int (u176.1 4), .int (u176.1 5), .int (u176.1 6), .ref a14, .ref a15, .int mgoal, .int mgoalDays, .int mgoalHearer, .ref a19, .ref a20, .int mleastOrder, .int mwordsMany, .ref a23, .ref a24, .ref a25, .ref a26, .ref a27, .ref a28])), (a4, .inl (g.2 1, 900, .inl mtape))] := hD
                  refine W.eq (g2 := F0 m 199 ls [.int (u176.1 0), .int z175, .ref a14]) rfl ?_
                  refine va_iast hx hb hKn.1 hP hD hS 0 0 rfl rfl (vp_in_iff.mpr ⟨by omega, by omega⟩) dX12_readNext_199 (fun H locs hP hD hS => ?_)
                  have hP : va_P g.1 vwCl [(a14, .inl (g.2 0, 225, .inl (upd x158 (z175.toNatClampNeg) (u176.1 0)))), (h0, .inr (12, [.int mthrown, .ref a1, .ref a2, .ref a3, .ref a4, .int mtaped, .ref a6, .int msize, .int (u176.1 1), .int (u176.1 2), .int (u176.1 3), .int (u176.1 4), .int (u176.1 5), .int (u176.1 6), .ref a14, .ref a15, .int mgoal, .int mgoalDays, .int mgoalHearer, .ref a19, .ref a20, .int mleastOrder, .int mwordsMany, .ref a23, .ref a24, .ref a25, .ref a26, .ref a27, .ref a28])), (a4, .inl (g.2 1, 900, .inl mtape))] H := hP
                  have hD : va_D A [(a14, .inl (g.2 0, 225, .inl (upd x158 (z175.toNatClampNeg) (u176.1 0)))), (h0, .inr (12, [.int mthrown, .ref a1, .ref a2, .ref a3, .ref a4, .int mtaped, .ref a6, .int msize, .int (u176.1 1), .int (u176.1 2), .int (u176.1 3), .int (u176.1 4), .int (u176.1 5), .int (u176.1 6), .ref a14, .ref a15, .int mgoal, .int mgoalDays, .int mgoalHearer, .ref a19, .ref a20, .int mleastOrder, .int mwordsMany, .ref a23, .ref a24, .ref a25, .ref a26, .ref a27, .ref a28])), (a4, .inl (g.2 1, 900, .inl mtape))] := hD
                  have a_f178 : wok (upd x158 (z175.toNatClampNeg) (u176.1 0)) := (wx_g h_x158 (by omega) (by omega) (by omega))
                  generalize E_f178 : (upd x158 (z175.toNatClampNeg) (u176.1 0) : Nat → Int32) = f178 at hP hD a_f178
                  have g_f178_0 : (f178 0).toInt = (x158 0).toInt := by rw [← E_f178, uo (by have := cln (x := z175) (by omega); omega)]
                  have g_f178_2 : (f178 2).toInt = (x158 2).toInt := by rw [← E_f178, uo (by have := cln (x := z175) (by omega); omega)]
                  have g_f178_5 : (f178 5).toInt = (x158 5).toInt := by rw [← E_f178, uo (by have := cln (x := z175) (by omega); omega)]
                  have g_f178_6 : (f178 6).toInt = (x158 6).toInt := by rw [← E_f178, uo (by have := cln (x := z175) (by omega); omega)]
                  have g_f178_7 : (f178 7).toInt = (x158 7).toInt := by rw [← E_f178, uo (by have := cln (x := z175) (by omega); omega)]
                  have g_f178_8 : (f178 8).toInt = (x158 8).toInt := by rw [← E_f178, uo (by have := cln (x := z175) (by omega); omega)]
                  have g_f178_9 : (f178 9).toInt = (x158 9).toInt := by rw [← E_f178, uo (by have := cln (x := z175) (by omega); omega)]
                  obtain ⟨z179, e_z179⟩ : ∃ y : Int32, y = x157 + 1 := ⟨_, rfl⟩
                  have t_z179 : z179.toInt = x157.toInt + 1 := by rw [e_z179]; exact addk (by decide) (by omega) (by omega)
                  refine lv_iinc (v := z179) (lv' := [(2, .int z179), (1, .int x1), (0, .ref h0)]) hx hb dX12_readNext_200 hl (k := 0) rfl (by rw [e_z179]; rfl) (by decide) rfl (fun ls hl => ?_)
                  refine lv_goto (tgt := 174) hx hb dX12_readNext_203 (by decide) ?_
                  exact ih170 z179 f178 (u176.1 1) (u176.1 2) (u176.1 3) (u176.1 4) (u176.1 5) (u176.1 6) _ _ ls (by omega) a_f178 (by omega) (by omega) (by omega) (by omega) (by omega) (by omega) (by omega) (by omega) (by omega) (by omega) hP hD hS (lv_sub hl [0, 1, 2] rfl)
            have kc0 : (0 : Int32).toInt = 0 := by decide
            exact lp169 _ (0 : Int32) mfresh (u10.1 1) (u10.1 2) (u10.1 3) (u10.1 4) x3 x4 _ _ ls (by decide) i_mfresh (by omega) (by omega) (by omega) (by omega) (by omega) (by omega) (by omega) (by omega) (by omega) (Nat.lt_succ_self _) hP hD hS (lv_sub hl [0, 1, 2] rfl)
      · skip
        refine tp_i (v := 0) (Int32.toInt_inj.mp (show (u7.1 0).toInt = (0 : Int32).toInt by rw [show (0 : Int32).toInt = 0 by decide]; omega)) ?_
        refine lv_if_ne (tgt := 163) hx hb dX12_readNext_159 (by decide) (fun h => absurd h (by decide)) (fun _ => ?_)
        exact rt_v FX ((fun k => match k with | 0 => 0 | 1 => mat | 2 => mfrom | 3 => mtoken | 4 => mvalue | 5 => x3 | 6 => x4 | _ => 0), (fun k => match k with | 0 => mfresh | _ => fun _ => 0), (fun _ => fun _ => 0)) rfl ⟨(show 0 ≤ mat.toInt ∧ mat.toInt ≤ 900 by omega), (show 0 ≤ mfrom.toInt ∧ mfrom.toInt ≤ 900 by omega), (show 0 ≤ mtoken.toInt ∧ mtoken.toInt ≤ 4 by omega), (show 0 ≤ mvalue.toInt ∧ mvalue.toInt ≤ 99999 by omega), (show 0 ≤ x3.toInt ∧ x3.toInt ≤ 3 by omega), i_mfresh, (show 5 * mat.toInt - mtoken.toInt ≤ 5 * (mat).toInt - (mtoken).toInt by omega), (show (x3).toInt = 0 → mfaultKind.toInt = 0 by omega), (show ((mfresh) 0).toInt = (mfresh 0).toInt ∧ ((mfresh) 2).toInt = (mfresh 2).toInt from (show (mfresh 0).toInt = (mfresh 0).toInt ∧ (mfresh 2).toInt = (mfresh 2).toInt by omega))⟩ (hP.sub [2, 0, 1] rfl) (hD.sub [2, 0, 1] (by decide) rfl) hS (Nat.le_of_ble_eq_true rfl) (Nat.le_of_ble_eq_true rfl) dX12_readNext_162
    refine lv_iload_n hx hb dX12_readNext_60 rfl (lv_at hl 0 rfl) ?_
    refine lv_if_ne (tgt := 69) hx hb dX12_readNext_61 (by decide) (fun c180 => ?_) (fun c180 => ?_)
    · have c180 := k_ne (a := x1.toInt) (b := 0) rfl (by decide) c180
      refine lv_aload_n hx hb dX12_readNext_69 rfl (lv_at hl 1 rfl) ?_
      refine va_ldcS hx hb hown (hZ.2.2 25 _ rfl).1 dX12_readNext_70 ?_
      refine call_V (As := [.ref (sa g 25)]) (rest := []) (wr := [(a14, .inl (g.2 0, 225, .inl mfresh))]) FC hKn hZ (k_X12_is l g 25 h0 a1 a2 a3 a4 a6 a14 a15 a19 a20 a23 a24 a25 a26 a27 a28 mthrown mtaped msize mat mfrom mtoken mvalue mfaultKind mfaultPlace mgoal mgoalDays mgoalHearer mleastOrder mwordsMany mtape (by omega) (by omega) (by omega) (by omega) (by omega) (by omega) (by omega) (by omega) (by omega) (by omega)) m_yX12_is b_1126 (ci := 12) rfl rfl rfl hP hD hS hA [0, 1] [2] rfl (by decide) rfl (by decide) (by decide) rfl hl.1 rfl (Nat.le_of_ble_eq_true rfl) dX12_readNext_72 ⟨(Nat.le_of_ble_eq_true rfl), (Nat.le_of_ble_eq_true rfl)⟩ ⟨(Nat.le_of_ble_eq_true rfl), (Nat.le_of_ble_eq_true rfl)⟩ (fun u181 H locs q182 hP hD hS => ?_)
      obtain ⟨q182_0, q182_1, q182_2⟩ := q182
      have hP : va_P g.1 vwCl [(a14, .inl (g.2 0, 225, .inl mfresh)), (h0, .inr (12, [.int mthrown, .ref a1, .ref a2, .ref a3, .ref a4, .int mtaped, .ref a6, .int msize, .int mat, .int mfrom, .int mtoken, .int mvalue, .int mfaultKind, .int mfaultPlace, .ref a14, .ref a15, .int mgoal, .int mgoalDays, .int mgoalHearer, .ref a19, .ref a20, .int mleastOrder, .int mwordsMany, .ref a23, .ref a24, .ref a25, .ref a26, .ref a27, .ref a28])), (a4, .inl (g.2 1, 900, .inl mtape))] H := hP
      have hD : va_D A [(a14, .inl (g.2 0, 225, .inl mfresh)), (h0, .inr (12, [.int mthrown, .ref a1, .ref a2, .ref a3, .ref a4, .int mtaped, .ref a6, .int msize, .int mat, .int mfrom, .int mtoken, .int mvalue, .int mfaultKind, .int mfaultPlace, .ref a14, .ref a15, .int mgoal, .int mgoalDays, .int mgoalHearer, .ref a19, .ref a20, .int mleastOrder, .int mwordsMany, .ref a23, .ref a24, .ref a25, .ref a26, .ref a27, .ref a28])), (a4, .inl (g.2 1, 900, .inl mtape))] := hD
      refine W.eq (g2 := F0 m 75 ls [.int (u181.1 0)]) rfl ?_
      rw [q182_1] at q182_0
      rw [q182_1] at q182_2
      refine tp_i (v := isF mfaultKind mtoken mat mfrom mtape 25) q182_1 ?_
      refine lv_if_eq (tgt := 88) hx hb dX12_readNext_75 (by decide) (fun c183 => ?_) (fun c183 => ?_)
      · have c183 := k_eq (a := (isF mfaultKind mtoken mat mfrom mtape 25).toInt) (b := 0) rfl (by decide) c183
        refine lv_aload_n hx hb dX12_readNext_88 rfl (lv_at hl 1 rfl) ?_
        refine va_ldcS hx hb hown (hZ.2.2 26 _ rfl).1 dX12_readNext_89 ?_
        refine call_V (As := [.ref (sa g 26)]) (rest := []) (wr := [(a14, .inl (g.2 0, 225, .inl mfresh))]) FC hKn hZ (k_X12_is l g 26 h0 a1 a2 a3 a4 a6 a14 a15 a19 a20 a23 a24 a25 a26 a27 a28 mthrown mtaped msize mat mfrom mtoken mvalue mfaultKind mfaultPlace mgoal mgoalDays mgoalHearer mleastOrder mwordsMany mtape (by omega) (by omega) (by omega) (by omega) (by omega) (by omega) (by omega) (by omega) (by omega) (by omega)) m_yX12_is b_1126 (ci := 12) rfl rfl rfl hP hD hS hA [1, 2] [0] rfl (by decide) rfl (by decide) (by decide) rfl hl.1 rfl (Nat.le_of_ble_eq_true rfl) dX12_readNext_91 ⟨(Nat.le_of_ble_eq_true rfl), (Nat.le_of_ble_eq_true rfl)⟩ ⟨(Nat.le_of_ble_eq_true rfl), (Nat.le_of_ble_eq_true rfl)⟩ (fun u184 H locs q185 hP hD hS => ?_)
        obtain ⟨q185_0, q185_1, q185_2⟩ := q185
        have hP : va_P g.1 vwCl [(a14, .inl (g.2 0, 225, .inl mfresh)), (h0, .inr (12, [.int mthrown, .ref a1, .ref a2, .ref a3, .ref a4, .int mtaped, .ref a6, .int msize, .int mat, .int mfrom, .int mtoken, .int mvalue, .int mfaultKind, .int mfaultPlace, .ref a14, .ref a15, .int mgoal, .int mgoalDays, .int mgoalHearer, .ref a19, .ref a20, .int mleastOrder, .int mwordsMany, .ref a23, .ref a24, .ref a25, .ref a26, .ref a27, .ref a28])), (a4, .inl (g.2 1, 900, .inl mtape))] H := hP
        have hD : va_D A [(a14, .inl (g.2 0, 225, .inl mfresh)), (h0, .inr (12, [.int mthrown, .ref a1, .ref a2, .ref a3, .ref a4, .int mtaped, .ref a6, .int msize, .int mat, .int mfrom, .int mtoken, .int mvalue, .int mfaultKind, .int mfaultPlace, .ref a14, .ref a15, .int mgoal, .int mgoalDays, .int mgoalHearer, .ref a19, .ref a20, .int mleastOrder, .int mwordsMany, .ref a23, .ref a24, .ref a25, .ref a26, .ref a27, .ref a28])), (a4, .inl (g.2 1, 900, .inl mtape))] := hD
        refine W.eq (g2 := F0 m 94 ls [.int (u184.1 0)]) rfl ?_
        rw [q185_1] at q185_0
        rw [q185_1] at q185_2
        refine tp_i (v := isF mfaultKind mtoken mat mfrom mtape 26) q185_1 ?_
        refine lv_if_eq (tgt := 109) hx hb dX12_readNext_94 (by decide) (fun c186 => ?_) (fun c186 => ?_)
        · have c186 := k_eq (a := (isF mfaultKind mtoken mat mfrom mtape 26).toInt) (b := 0) rfl (by decide) c186
          refine lv_aload_n hx hb dX12_readNext_109 rfl (lv_at hl 1 rfl) ?_
          refine va_ldcS hx hb hown (hZ.2.2 27 _ rfl).1 dX12_readNext_110 ?_
          refine call_V (As := [.ref (sa g 27)]) (rest := []) (wr := [(a14, .inl (g.2 0, 225, .inl mfresh))]) FC hKn hZ (k_X12_is l g 27 h0 a1 a2 a3 a4 a6 a14 a15 a19 a20 a23 a24 a25 a26 a27 a28 mthrown mtaped msize mat mfrom mtoken mvalue mfaultKind mfaultPlace mgoal mgoalDays mgoalHearer mleastOrder mwordsMany mtape (by omega) (by omega) (by omega) (by omega) (by omega) (by omega) (by omega) (by omega) (by omega) (by omega)) m_yX12_is b_1126 (ci := 12) rfl rfl rfl hP hD hS hA [1, 2] [0] rfl (by decide) rfl (by decide) (by decide) rfl hl.1 rfl (Nat.le_of_ble_eq_true rfl) dX12_readNext_112 ⟨(Nat.le_of_ble_eq_true rfl), (Nat.le_of_ble_eq_true rfl)⟩ ⟨(Nat.le_of_ble_eq_true rfl), (Nat.le_of_ble_eq_true rfl)⟩ (fun u187 H locs q188 hP hD hS => ?_)
          obtain ⟨q188_0, q188_1, q188_2⟩ := q188
          have hP : va_P g.1 vwCl [(a14, .inl (g.2 0, 225, .inl mfresh)), (h0, .inr (12, [.int mthrown, .ref a1, .ref a2, .ref a3, .ref a4, .int mtaped, .ref a6, .int msize, .int mat, .int mfrom, .int mtoken, .int mvalue, .int mfaultKind, .int mfaultPlace, .ref a14, .ref a15, .int mgoal, .int mgoalDays, .int mgoalHearer, .ref a19, .ref a20, .int mleastOrder, .int mwordsMany, .ref a23, .ref a24, .ref a25, .ref a26, .ref a27, .ref a28])), (a4, .inl (g.2 1, 900, .inl mtape))] H := hP
          have hD : va_D A [(a14, .inl (g.2 0, 225, .inl mfresh)), (h0, .inr (12, [.int mthrown, .ref a1, .ref a2, .ref a3, .ref a4, .int mtaped, .ref a6, .int msize, .int mat, .int mfrom, .int mtoken, .int mvalue, .int mfaultKind, .int mfaultPlace, .ref a14, .ref a15, .int mgoal, .int mgoalDays, .int mgoalHearer, .ref a19, .ref a20, .int mleastOrder, .int mwordsMany, .ref a23, .ref a24, .ref a25, .ref a26, .ref a27, .ref a28])), (a4, .inl (g.2 1, 900, .inl mtape))] := hD
          refine W.eq (g2 := F0 m 115 ls [.int (u187.1 0)]) rfl ?_
          rw [q188_1] at q188_0
          rw [q188_1] at q188_2
          refine tp_i (v := isF mfaultKind mtoken mat mfrom mtape 27) q188_1 ?_
          refine lv_if_eq (tgt := 129) hx hb dX12_readNext_115 (by decide) (fun c189 => ?_) (fun c189 => ?_)
          · have c189 := k_eq (a := (isF mfaultKind mtoken mat mfrom mtape 27).toInt) (b := 0) rfl (by decide) c189
            refine lv_aload_n hx hb dX12_readNext_129 rfl (lv_at hl 1 rfl) ?_
            refine va_ldcS hx hb hown (hZ.2.2 28 _ rfl).1 dX12_readNext_130 ?_
            refine call_V (As := [.ref (sa g 28)]) (rest := []) (wr := [(a14, .inl (g.2 0, 225, .inl mfresh))]) FC hKn hZ (k_X12_is l g 28 h0 a1 a2 a3 a4 a6 a14 a15 a19 a20 a23 a24 a25 a26 a27 a28 mthrown mtaped msize mat mfrom mtoken mvalue mfaultKind mfaultPlace mgoal mgoalDays mgoalHearer mleastOrder mwordsMany mtape (by omega) (by omega) (by omega) (by omega) (by omega) (by omega) (by omega) (by omega) (by omega) (by omega)) m_yX12_is b_1126 (ci := 12) rfl rfl rfl hP hD hS hA [1, 2] [0] rfl (by decide) rfl (by decide) (by decide) rfl hl.1 rfl (Nat.le_of_ble_eq_true rfl) dX12_readNext_132 ⟨(Nat.le_of_ble_eq_true rfl), (Nat.le_of_ble_eq_true rfl)⟩ ⟨(Nat.le_of_ble_eq_true rfl), (Nat.le_of_ble_eq_true rfl)⟩ (fun u190 H locs q191 hP hD hS => ?_)
            obtain ⟨q191_0, q191_1, q191_2⟩ := q191
            have hP : va_P g.1 vwCl [(a14, .inl (g.2 0, 225, .inl mfresh)), (h0, .inr (12, [.int mthrown, .ref a1, .ref a2, .ref a3, .ref a4, .int mtaped, .ref a6, .int msize, .int mat, .int mfrom, .int mtoken, .int mvalue, .int mfaultKind, .int mfaultPlace, .ref a14, .ref a15, .int mgoal, .int mgoalDays, .int mgoalHearer, .ref a19, .ref a20, .int mleastOrder, .int mwordsMany, .ref a23, .ref a24, .ref a25, .ref a26, .ref a27, .ref a28])), (a4, .inl (g.2 1, 900, .inl mtape))] H := hP
            have hD : va_D A [(a14, .inl (g.2 0, 225, .inl mfresh)), (h0, .inr (12, [.int mthrown, .ref a1, .ref a2, .ref a3, .ref a4, .int mtaped, .ref a6, .int msize, .int mat, .int mfrom, .int mtoken, .int mvalue, .int mfaultKind, .int mfaultPlace, .ref a14, .ref a15, .int mgoal, .int mgoalDays, .int mgoalHearer, .ref a19, .ref a20, .int mleastOrder, .int mwordsMany, .ref a23, .ref a24, .ref a25, .ref a26, .ref a27, .ref a28])), (a4, .inl (g.2 1, 900, .inl mtape))] := hD
            refine W.eq (g2 := F0 m 135 ls [.int (u190.1 0)]) rfl ?_
            rw [q191_1] at q191_0
            rw [q191_1] at q191_2
            refine tp_i (v := isF mfaultKind mtoken mat mfrom mtape 28) q191_1 ?_
            refine lv_if_eq (tgt := 155) hx hb dX12_readNext_135 (by decide) (fun c192 => ?_) (fun c192 => ?_)
            · have c192 := k_eq (a := (isF mfaultKind mtoken mat mfrom mtape 28).toInt) (b := 0) rfl (by decide) c192
              exact jn6 mfaultKind mfaultPlace _ _ ls (by omega) (by omega)  (hP.sub [1, 2, 0] rfl) (hD.sub [1, 2, 0] (by decide) rfl) hS (lv_sub hl [0, 1] rfl)
            · have c192 := k_ne (a := (isF mfaultKind mtoken mat mfrom mtape 28).toInt) (b := 0) rfl (by decide) c192
              refine lv_aload_n hx hb dX12_readNext_138 rfl (lv_at hl 1 rfl) ?_
              refine g_get (C := RX12) (T := TX12) (N := 29) (ci := 12) (v := .ref a14) FC hKn hP i_X12 1 rfl rfl 14 (by decide) b_1132 rfl dX12_readNext_139 ?_
              refine lv_bipush (v := 8) hx hb dX12_readNext_142 (by decide) ?_
              refine va_iald hx hb hKn.1 hP 0 0 rfl rfl (by unfold vp_in; decide) dX12_readNext_144 ?_
              have kc8 : (8 : Int32).toInt = 8 := by decide
              refine lv_topi (fun z193 e_z193 => ?_)
              have t_z193 : 0 ≤ z193.toInt ∧ z193.toInt ≤ 6 := by rw [e_z193]; exact wk_8 i_mfresh
              have q_z193 : z193.toInt = (mfresh 8).toInt := by rw [e_z193]; rfl
              refine lv_bipush (v := 6) hx hb dX12_readNext_145 (by decide) ?_
              refine lv_icmp_ne (tgt := 155) hx hb dX12_readNext_147 (by decide) (fun c194 => ?_) (fun c194 => ?_)
              · have c194 := k_ne (a := z193.toInt) (b := 6) rfl (by decide) c194
                exact jn6 mfaultKind mfaultPlace _ _ ls (by omega) (by omega)  (hP.sub [1, 2, 0] rfl) (hD.sub [1, 2, 0] (by decide) rfl) hS (lv_sub hl [0, 1] rfl)
              · have c194 := k_eq (a := z193.toInt) (b := 6) rfl (by decide) c194
                refine lv_aload_n hx hb dX12_readNext_150 rfl (lv_at hl 1 rfl) ?_
                refine lv_iconst (v := 3) hx hb dX12_readNext_151 (by decide) ?_
                have kc3 : (3 : Int32).toInt = 3 := by decide
                refine call_V (As := [.int 3]) (rest := []) (wr := [(a14, .inl (g.2 0, 225, .inl mfresh)), (a4, .inl (g.2 1, 900, .inl mtape))]) FC hKn hZ (k_X12_errs l g h0 a1 a2 a3 a4 a6 a14 a15 a19 a20 a23 a24 a25 a26 a27 a28 mthrown mtaped msize mat mfrom mtoken mvalue mfaultKind mfaultPlace mgoal mgoalDays mgoalHearer mleastOrder mwordsMany ((3 : Int32)) (by omega) (by omega) (by omega) (by omega) (by omega) (by omega) (by omega) (by omega) (by omega) (by omega)) m_yX12_errs b_1129 (ci := 12) rfl rfl rfl hP hD hS hA [1] [0, 2] rfl (by decide) rfl (by decide) (by decide) rfl hl.1 rfl (Nat.le_of_ble_eq_true rfl) dX12_readNext_152 ⟨(Nat.le_of_ble_eq_true rfl), (Nat.le_of_ble_eq_true rfl)⟩ ⟨(Nat.le_of_ble_eq_true rfl), (Nat.le_of_ble_eq_true rfl)⟩ (fun u195 H locs q196 hP hD hS => ?_)
                have q196_0 : 1 ≤ (u195.1 1).toInt ∧ (u195.1 1).toInt ≤ 3 := q196
                have hP : va_P g.1 vwCl [(a14, .inl (g.2 0, 225, .inl mfresh)), (a4, .inl (g.2 1, 900, .inl mtape)), (h0, .inr (12, [.int mthrown, .ref a1, .ref a2, .ref a3, .ref a4, .int mtaped, .ref a6, .int msize, .int mat, .int mfrom, .int mtoken, .int mvalue, .int (u195.1 1), .int (u195.1 2), .ref a14, .ref a15, .int mgoal, .int mgoalDays, .int mgoalHearer, .ref a19, .ref a20, .int mleastOrder, .int mwordsMany, .ref a23, .ref a24, .ref a25, .ref a26, .ref a27, .ref a28]))] H := hP
                have hD : va_D A [(a14, .inl (g.2 0, 225, .inl mfresh)), (a4, .inl (g.2 1, 900, .inl mtape)), (h0, .inr (12, [.int mthrown, .ref a1, .ref a2, .ref a3, .ref a4, .int mtaped, .ref a6, .int msize, .int mat, .int mfrom, .int mtoken, .int mvalue, .int (u195.1 1), .int (u195.1 2), .ref a14, .ref a15, .int mgoal, .int mgoalDays, .int mgoalHearer, .ref a19, .ref a20, .int mleastOrder, .int mwordsMany, .ref a23, .ref a24, .ref a25, .ref a26, .ref a27, .ref a28]))] := hD
                refine W.eq (g2 := F0 m 155 ls []) rfl ?_
                exact jn6 (u195.1 1) (u195.1 2) _ _ ls (by omega) (by omega)  (hP.sub [2, 1, 0] rfl) (hD.sub [2, 1, 0] (by decide) rfl) hS (lv_sub hl [0, 1] rfl)
          · have c189 := k_ne (a := (isF mfaultKind mtoken mat mfrom mtape 27).toInt) (b := 0) rfl (by decide) c189
            refine lv_aload_n hx hb dX12_readNext_118 rfl (lv_at hl 1 rfl) ?_
            refine g_get (C := RX12) (T := TX12) (N := 29) (ci := 12) (v := .ref a14) FC hKn hP i_X12 1 rfl rfl 14 (by decide) b_1132 rfl dX12_readNext_119 ?_
            refine lv_bipush (v := 7) hx hb dX12_readNext_122 (by decide) ?_
            refine va_iald hx hb hKn.1 hP 0 0 rfl rfl (by unfold vp_in; decide) dX12_readNext_124 ?_
            have kc7 : (7 : Int32).toInt = 7 := by decide
            refine lv_topi (fun z197 e_z197 => ?_)
            have t_z197 : 0 ≤ z197.toInt ∧ z197.toInt ≤ 4 := by rw [e_z197]; exact wk_7 i_mfresh
            have q_z197 : z197.toInt = (mfresh 7).toInt := by rw [e_z197]; rfl
            refine lv_iconst (v := 4) hx hb dX12_readNext_125 (by decide) ?_
            refine lv_icmp_eq (tgt := 150) hx hb dX12_readNext_126 (by decide) (fun c198 => ?_) (fun c198 => ?_)
            · have c198 := k_eq (a := z197.toInt) (b := 4) rfl (by decide) c198
              refine lv_aload_n hx hb dX12_readNext_150 rfl (lv_at hl 1 rfl) ?_
              refine lv_iconst (v := 3) hx hb dX12_readNext_151 (by decide) ?_
              have kc3 : (3 : Int32).toInt = 3 := by decide
              refine call_V (As := [.int 3]) (rest := []) (wr := [(a14, .inl (g.2 0, 225, .inl mfresh)), (a4, .inl (g.2 1, 900, .inl mtape))]) FC hKn hZ (k_X12_errs l g h0 a1 a2 a3 a4 a6 a14 a15 a19 a20 a23 a24 a25 a26 a27 a28 mthrown mtaped msize mat mfrom mtoken mvalue mfaultKind mfaultPlace mgoal mgoalDays mgoalHearer mleastOrder mwordsMany ((3 : Int32)) (by omega) (by omega) (by omega) (by omega) (by omega) (by omega) (by omega) (by omega) (by omega) (by omega)) m_yX12_errs b_1129 (ci := 12) rfl rfl rfl hP hD hS hA [1] [0, 2] rfl (by decide) rfl (by decide) (by decide) rfl hl.1 rfl (Nat.le_of_ble_eq_true rfl) dX12_readNext_152 ⟨(Nat.le_of_ble_eq_true rfl), (Nat.le_of_ble_eq_true rfl)⟩ ⟨(Nat.le_of_ble_eq_true rfl), (Nat.le_of_ble_eq_true rfl)⟩ (fun u199 H locs q200 hP hD hS => ?_)
              have q200_0 : 1 ≤ (u199.1 1).toInt ∧ (u199.1 1).toInt ≤ 3 := q200
              have hP : va_P g.1 vwCl [(a14, .inl (g.2 0, 225, .inl mfresh)), (a4, .inl (g.2 1, 900, .inl mtape)), (h0, .inr (12, [.int mthrown, .ref a1, .ref a2, .ref a3, .ref a4, .int mtaped, .ref a6, .int msize, .int mat, .int mfrom, .int mtoken, .int mvalue, .int (u199.1 1), .int (u199.1 2), .ref a14, .ref a15, .int mgoal, .int mgoalDays, .int mgoalHearer, .ref a19, .ref a20, .int mleastOrder, .int mwordsMany, .ref a23, .ref a24, .ref a25, .ref a26, .ref a27, .ref a28]))] H := hP
              have hD : va_D A [(a14, .inl (g.2 0, 225, .inl mfresh)), (a4, .inl (g.2 1, 900, .inl mtape)), (h0, .inr (12, [.int mthrown, .ref a1, .ref a2, .ref a3, .ref a4, .int mtaped, .ref a6, .int msize, .int mat, .int mfrom, .int mtoken, .int mvalue, .int (u199.1 1), .int (u199.1 2), .ref a14, .ref a15, .int mgoal, .int mgoalDays, .int mgoalHearer, .ref a19, .ref a20, .int mleastOrder, .int mwordsMany, .ref a23, .ref a24, .ref a25, .ref a26, .ref a27, .ref a28]))] := hD
              refine W.eq (g2 := F0 m 155 ls []) rfl ?_
              exact jn6 (u199.1 1) (u199.1 2) _ _ ls (by omega) (by omega)  (hP.sub [2, 1, 0] rfl) (hD.sub [2, 1, 0] (by decide) rfl) hS (lv_sub hl [0, 1] rfl)
            · have c198 := k_ne (a := z197.toInt) (b := 4) rfl (by decide) c198
              refine lv_aload_n hx hb dX12_readNext_129 rfl (lv_at hl 1 rfl) ?_
              refine va_ldcS hx hb hown (hZ.2.2 28 _ rfl).1 dX12_readNext_130 ?_
              refine call_V (As := [.ref (sa g 28)]) (rest := []) (wr := [(a14, .inl (g.2 0, 225, .inl mfresh))]) FC hKn hZ (k_X12_is l g 28 h0 a1 a2 a3 a4 a6 a14 a15 a19 a20 a23 a24 a25 a26 a27 a28 mthrown mtaped msize mat mfrom mtoken mvalue mfaultKind mfaultPlace mgoal mgoalDays mgoalHearer mleastOrder mwordsMany mtape (by omega) (by omega) (by omega) (by omega) (by omega) (by omega) (by omega) (by omega) (by omega) (by omega)) m_yX12_is b_1126 (ci := 12) rfl rfl rfl hP hD hS hA [1, 2] [0] rfl (by decide) rfl (by decide) (by decide) rfl hl.1 rfl (Nat.le_of_ble_eq_true rfl) dX12_readNext_132 ⟨(Nat.le_of_ble_eq_true rfl), (Nat.le_of_ble_eq_true rfl)⟩ ⟨(Nat.le_of_ble_eq_true rfl), (Nat.le_of_ble_eq_true rfl)⟩ (fun u201 H locs q202 hP hD hS => ?_)
              obtain ⟨q202_0, q202_1, q202_2⟩ := q202
              have hP : va_P g.1 vwCl [(a14, .inl (g.2 0, 225, .inl mfresh)), (h0, .inr (12, [.int mthrown, .ref a1, .ref a2, .ref a3, .ref a4, .int mtaped, .ref a6, .int msize, .int mat, .int mfrom, .int mtoken, .int mvalue, .int mfaultKind, .int mfaultPlace, .ref a14, .ref a15, .int mgoal, .int mgoalDays, .int mgoalHearer, .ref a19, .ref a20, .int mleastOrder, .int mwordsMany, .ref a23, .ref a24, .ref a25, .ref a26, .ref a27, .ref a28])), (a4, .inl (g.2 1, 900, .inl mtape))] H := hP
              have hD : va_D A [(a14, .inl (g.2 0, 225, .inl mfresh)), (h0, .inr (12, [.int mthrown, .ref a1, .ref a2, .ref a3, .ref a4, .int mtaped, .ref a6, .int msize, .int mat, .int mfrom, .int mtoken, .int mvalue, .int mfaultKind, .int mfaultPlace, .ref a14, .ref a15, .int mgoal, .int mgoalDays, .int mgoalHearer, .ref a19, .ref a20, .int mleastOrder, .int mwordsMany, .ref a23, .ref a24, .ref a25, .ref a26, .ref a27, .ref a28])), (a4, .inl (g.2 1, 900, .inl mtape))] := hD
              refine W.eq (g2 := F0 m 135 ls [.int (u201.1 0)]) rfl ?_
              rw [q202_1] at q202_0
              rw [q202_1] at q202_2
              refine tp_i (v := isF mfaultKind mtoken mat mfrom mtape 28) q202_1 ?_
              refine lv_if_eq (tgt := 155) hx hb dX12_readNext_135 (by decide) (fun c203 => ?_) (fun c203 => ?_)
              · have c203 := k_eq (a := (isF mfaultKind mtoken mat mfrom mtape 28).toInt) (b := 0) rfl (by decide) c203
                exact jn6 mfaultKind mfaultPlace _ _ ls (by omega) (by omega)  (hP.sub [1, 2, 0] rfl) (hD.sub [1, 2, 0] (by decide) rfl) hS (lv_sub hl [0, 1] rfl)
              · have c203 := k_ne (a := (isF mfaultKind mtoken mat mfrom mtape 28).toInt) (b := 0) rfl (by decide) c203
                refine lv_aload_n hx hb dX12_readNext_138 rfl (lv_at hl 1 rfl) ?_
                refine g_get (C := RX12) (T := TX12) (N := 29) (ci := 12) (v := .ref a14) FC hKn hP i_X12 1 rfl rfl 14 (by decide) b_1132 rfl dX12_readNext_139 ?_
                refine lv_bipush (v := 8) hx hb dX12_readNext_142 (by decide) ?_
                refine va_iald hx hb hKn.1 hP 0 0 rfl rfl (by unfold vp_in; decide) dX12_readNext_144 ?_
                have kc8 : (8 : Int32).toInt = 8 := by decide
                refine lv_topi (fun z204 e_z204 => ?_)
                have t_z204 : 0 ≤ z204.toInt ∧ z204.toInt ≤ 6 := by rw [e_z204]; exact wk_8 i_mfresh
                have q_z204 : z204.toInt = (mfresh 8).toInt := by rw [e_z204]; rfl
                refine lv_bipush (v := 6) hx hb dX12_readNext_145 (by decide) ?_
                refine lv_icmp_ne (tgt := 155) hx hb dX12_readNext_147 (by decide) (fun c205 => ?_) (fun c205 => ?_)
                · have c205 := k_ne (a := z204.toInt) (b := 6) rfl (by decide) c205
                  exact jn6 mfaultKind mfaultPlace _ _ ls (by omega) (by omega)  (hP.sub [1, 2, 0] rfl) (hD.sub [1, 2, 0] (by decide) rfl) hS (lv_sub hl [0, 1] rfl)
                · have c205 := k_eq (a := z204.toInt) (b := 6) rfl (by decide) c205
                  refine lv_aload_n hx hb dX12_readNext_150 rfl (lv_at hl 1 rfl) ?_
                  refine lv_iconst (v := 3) hx hb dX12_readNext_151 (by decide) ?_
                  have kc3 : (3 : Int32).toInt = 3 := by decide
                  refine call_V (As := [.int 3]) (rest := []) (wr := [(a14, .inl (g.2 0, 225, .inl mfresh)), (a4, .inl (g.2 1, 900, .inl mtape))]) FC hKn hZ (k_X12_errs l g h0 a1 a2 a3 a4 a6 a14 a15 a19 a20 a23 a24 a25 a26 a27 a28 mthrown mtaped msize mat mfrom mtoken mvalue mfaultKind mfaultPlace mgoal mgoalDays mgoalHearer mleastOrder mwordsMany ((3 : Int32)) (by omega) (by omega) (by omega) (by omega) (by omega) (by omega) (by omega) (by omega) (by omega) (by omega)) m_yX12_errs b_1129 (ci := 12) rfl rfl rfl hP hD hS hA [1] [0, 2] rfl (by decide) rfl (by decide) (by decide) rfl hl.1 rfl (Nat.le_of_ble_eq_true rfl) dX12_readNext_152 ⟨(Nat.le_of_ble_eq_true rfl), (Nat.le_of_ble_eq_true rfl)⟩ ⟨(Nat.le_of_ble_eq_true rfl), (Nat.le_of_ble_eq_true rfl)⟩ (fun u206 H locs q207 hP hD hS => ?_)
                  have q207_0 : 1 ≤ (u206.1 1).toInt ∧ (u206.1 1).toInt ≤ 3 := q207
                  have hP : va_P g.1 vwCl [(a14, .inl (g.2 0, 225, .inl mfresh)), (a4, .inl (g.2 1, 900, .inl mtape)), (h0, .inr (12, [.int mthrown, .ref a1, .ref a2, .ref a3, .ref a4, .int mtaped, .ref a6, .int msize, .int mat, .int mfrom, .int mtoken, .int mvalue, .int (u206.1 1), .int (u206.1 2), .ref a14, .ref a15, .int mgoal, .int mgoalDays, .int mgoalHearer, .ref a19, .ref a20, .int mleastOrder, .int mwordsMany, .ref a23, .ref a24, .ref a25, .ref a26, .ref a27, .ref a28]))] H := hP
                  have hD : va_D A [(a14, .inl (g.2 0, 225, .inl mfresh)), (a4, .inl (g.2 1, 900, .inl mtape)), (h0, .inr (12, [.int mthrown, .ref a1, .ref a2, .ref a3, .ref a4, .int mtaped, .ref a6, .int msize, .int mat, .int mfrom, .int mtoken, .int mvalue, .int (u206.1 1), .int (u206.1 2), .ref a14, .ref a15, .int mgoal, .int mgoalDays, .int mgoalHearer, .ref a19, .ref a20, .int mleastOrder, .int mwordsMany, .ref a23, .ref a24, .ref a25, .ref a26, .ref a27, .ref a28]))] := hD
                  refine W.eq (g2 := F0 m 155 ls []) rfl ?_
                  exact jn6 (u206.1 1) (u206.1 2) _ _ ls (by omega) (by omega)  (hP.sub [2, 1, 0] rfl) (hD.sub [2, 1, 0] (by decide) rfl) hS (lv_sub hl [0, 1] rfl)
        · have c186 := k_ne (a := (isF mfaultKind mtoken mat mfrom mtape 26).toInt) (b := 0) rfl (by decide) c186
          refine lv_aload_n hx hb dX12_readNext_97 rfl (lv_at hl 1 rfl) ?_
          refine g_get (C := RX12) (T := TX12) (N := 29) (ci := 12) (v := .ref a14) FC hKn hP i_X12 1 rfl rfl 14 (by decide) b_1132 rfl dX12_readNext_98 ?_
          refine lv_bipush (v := 6) hx hb dX12_readNext_101 (by decide) ?_
          refine va_iald hx hb hKn.1 hP 0 0 rfl rfl (by unfold vp_in; decide) dX12_readNext_103 ?_
          have kc6 : (6 : Int32).toInt = 6 := by decide
          refine lv_topi (fun z208 e_z208 => ?_)
          have t_z208 : 0 ≤ z208.toInt ∧ z208.toInt ≤ 8 := by rw [e_z208]; exact wk_6 i_mfresh
          have q_z208 : z208.toInt = (mfresh 6).toInt := by rw [e_z208]; rfl
          refine lv_bipush (v := 8) hx hb dX12_readNext_104 (by decide) ?_
          refine lv_icmp_eq (tgt := 150) hx hb dX12_readNext_106 (by decide) (fun c209 => ?_) (fun c209 => ?_)
          · have c209 := k_eq (a := z208.toInt) (b := 8) rfl (by decide) c209
            refine lv_aload_n hx hb dX12_readNext_150 rfl (lv_at hl 1 rfl) ?_
            refine lv_iconst (v := 3) hx hb dX12_readNext_151 (by decide) ?_
            have kc3 : (3 : Int32).toInt = 3 := by decide
            refine call_V (As := [.int 3]) (rest := []) (wr := [(a14, .inl (g.2 0, 225, .inl mfresh)), (a4, .inl (g.2 1, 900, .inl mtape))]) FC hKn hZ (k_X12_errs l g h0 a1 a2 a3 a4 a6 a14 a15 a19 a20 a23 a24 a25 a26 a27 a28 mthrown mtaped msize mat mfrom mtoken mvalue mfaultKind mfaultPlace mgoal mgoalDays mgoalHearer mleastOrder mwordsMany ((3 : Int32)) (by omega) (by omega) (by omega) (by omega) (by omega) (by omega) (by omega) (by omega) (by omega) (by omega)) m_yX12_errs b_1129 (ci := 12) rfl rfl rfl hP hD hS hA [1] [0, 2] rfl (by decide) rfl (by decide) (by decide) rfl hl.1 rfl (Nat.le_of_ble_eq_true rfl) dX12_readNext_152 ⟨(Nat.le_of_ble_eq_true rfl), (Nat.le_of_ble_eq_true rfl)⟩ ⟨(Nat.le_of_ble_eq_true rfl), (Nat.le_of_ble_eq_true rfl)⟩ (fun u210 H locs q211 hP hD hS => ?_)
            have q211_0 : 1 ≤ (u210.1 1).toInt ∧ (u210.1 1).toInt ≤ 3 := q211
            have hP : va_P g.1 vwCl [(a14, .inl (g.2 0, 225, .inl mfresh)), (a4, .inl (g.2 1, 900, .inl mtape)), (h0, .inr (12, [.int mthrown, .ref a1, .ref a2, .ref a3, .ref a4, .int mtaped, .ref a6, .int msize, .int mat, .int mfrom, .int mtoken, .int mvalue, .int (u210.1 1), .int (u210.1 2), .ref a14, .ref a15, .int mgoal, .int mgoalDays, .int mgoalHearer, .ref a19, .ref a20, .int mleastOrder, .int mwordsMany, .ref a23, .ref a24, .ref a25, .ref a26, .ref a27, .ref a28]))] H := hP
            have hD : va_D A [(a14, .inl (g.2 0, 225, .inl mfresh)), (a4, .inl (g.2 1, 900, .inl mtape)), (h0, .inr (12, [.int mthrown, .ref a1, .ref a2, .ref a3, .ref a4, .int mtaped, .ref a6, .int msize, .int mat, .int mfrom, .int mtoken, .int mvalue, .int (u210.1 1), .int (u210.1 2), .ref a14, .ref a15, .int mgoal, .int mgoalDays, .int mgoalHearer, .ref a19, .ref a20, .int mleastOrder, .int mwordsMany, .ref a23, .ref a24, .ref a25, .ref a26, .ref a27, .ref a28]))] := hD
            refine W.eq (g2 := F0 m 155 ls []) rfl ?_
            exact jn6 (u210.1 1) (u210.1 2) _ _ ls (by omega) (by omega)  (hP.sub [2, 1, 0] rfl) (hD.sub [2, 1, 0] (by decide) rfl) hS (lv_sub hl [0, 1] rfl)
          · have c209 := k_ne (a := z208.toInt) (b := 8) rfl (by decide) c209
            refine lv_aload_n hx hb dX12_readNext_109 rfl (lv_at hl 1 rfl) ?_
            refine va_ldcS hx hb hown (hZ.2.2 27 _ rfl).1 dX12_readNext_110 ?_
            refine call_V (As := [.ref (sa g 27)]) (rest := []) (wr := [(a14, .inl (g.2 0, 225, .inl mfresh))]) FC hKn hZ (k_X12_is l g 27 h0 a1 a2 a3 a4 a6 a14 a15 a19 a20 a23 a24 a25 a26 a27 a28 mthrown mtaped msize mat mfrom mtoken mvalue mfaultKind mfaultPlace mgoal mgoalDays mgoalHearer mleastOrder mwordsMany mtape (by omega) (by omega) (by omega) (by omega) (by omega) (by omega) (by omega) (by omega) (by omega) (by omega)) m_yX12_is b_1126 (ci := 12) rfl rfl rfl hP hD hS hA [1, 2] [0] rfl (by decide) rfl (by decide) (by decide) rfl hl.1 rfl (Nat.le_of_ble_eq_true rfl) dX12_readNext_112 ⟨(Nat.le_of_ble_eq_true rfl), (Nat.le_of_ble_eq_true rfl)⟩ ⟨(Nat.le_of_ble_eq_true rfl), (Nat.le_of_ble_eq_true rfl)⟩ (fun u212 H locs q213 hP hD hS => ?_)
            obtain ⟨q213_0, q213_1, q213_2⟩ := q213
            have hP : va_P g.1 vwCl [(a14, .inl (g.2 0, 225, .inl mfresh)), (h0, .inr (12, [.int mthrown, .ref a1, .ref a2, .ref a3, .ref a4, .int mtaped, .ref a6, .int msize, .int mat, .int mfrom, .int mtoken, .int mvalue, .int mfaultKind, .int mfaultPlace, .ref a14, .ref a15, .int mgoal, .int mgoalDays, .int mgoalHearer, .ref a19, .ref a20, .int mleastOrder, .int mwordsMany, .ref a23, .ref a24, .ref a25, .ref a26, .ref a27, .ref a28])), (a4, .inl (g.2 1, 900, .inl mtape))] H := hP
            have hD : va_D A [(a14, .inl (g.2 0, 225, .inl mfresh)), (h0, .inr (12, [.int mthrown, .ref a1, .ref a2, .ref a3, .ref a4, .int mtaped, .ref a6, .int msize, .int mat, .int mfrom, .int mtoken, .int mvalue, .int mfaultKind, .int mfaultPlace, .ref a14, .ref a15, .int mgoal, .int mgoalDays, .int mgoalHearer, .ref a19, .ref a20, .int mleastOrder, .int mwordsMany, .ref a23, .ref a24, .ref a25, .ref a26, .ref a27, .ref a28])), (a4, .inl (g.2 1, 900, .inl mtape))] := hD
            refine W.eq (g2 := F0 m 115 ls [.int (u212.1 0)]) rfl ?_
            rw [q213_1] at q213_0
            rw [q213_1] at q213_2
            refine tp_i (v := isF mfaultKind mtoken mat mfrom mtape 27) q213_1 ?_
            refine lv_if_eq (tgt := 129) hx hb dX12_readNext_115 (by decide) (fun c214 => ?_) (fun c214 => ?_)
            · have c214 := k_eq (a := (isF mfaultKind mtoken mat mfrom mtape 27).toInt) (b := 0) rfl (by decide) c214
              refine lv_aload_n hx hb dX12_readNext_129 rfl (lv_at hl 1 rfl) ?_
              refine va_ldcS hx hb hown (hZ.2.2 28 _ rfl).1 dX12_readNext_130 ?_
              refine call_V (As := [.ref (sa g 28)]) (rest := []) (wr := [(a14, .inl (g.2 0, 225, .inl mfresh))]) FC hKn hZ (k_X12_is l g 28 h0 a1 a2 a3 a4 a6 a14 a15 a19 a20 a23 a24 a25 a26 a27 a28 mthrown mtaped msize mat mfrom mtoken mvalue mfaultKind mfaultPlace mgoal mgoalDays mgoalHearer mleastOrder mwordsMany mtape (by omega) (by omega) (by omega) (by omega) (by omega) (by omega) (by omega) (by omega) (by omega) (by omega)) m_yX12_is b_1126 (ci := 12) rfl rfl rfl hP hD hS hA [1, 2] [0] rfl (by decide) rfl (by decide) (by decide) rfl hl.1 rfl (Nat.le_of_ble_eq_true rfl) dX12_readNext_132 ⟨(Nat.le_of_ble_eq_true rfl), (Nat.le_of_ble_eq_true rfl)⟩ ⟨(Nat.le_of_ble_eq_true rfl), (Nat.le_of_ble_eq_true rfl)⟩ (fun u215 H locs q216 hP hD hS => ?_)
              obtain ⟨q216_0, q216_1, q216_2⟩ := q216
              have hP : va_P g.1 vwCl [(a14, .inl (g.2 0, 225, .inl mfresh)), (h0, .inr (12, [.int mthrown, .ref a1, .ref a2, .ref a3, .ref a4, .int mtaped, .ref a6, .int msize, .int mat, .int mfrom, .int mtoken, .int mvalue, .int mfaultKind, .int mfaultPlace, .ref a14, .ref a15, .int mgoal, .int mgoalDays, .int mgoalHearer, .ref a19, .ref a20, .int mleastOrder, .int mwordsMany, .ref a23, .ref a24, .ref a25, .ref a26, .ref a27, .ref a28])), (a4, .inl (g.2 1, 900, .inl mtape))] H := hP
              have hD : va_D A [(a14, .inl (g.2 0, 225, .inl mfresh)), (h0, .inr (12, [.int mthrown, .ref a1, .ref a2, .ref a3, .ref a4, .int mtaped, .ref a6, .int msize, .int mat, .int mfrom, .int mtoken, .int mvalue, .int mfaultKind, .int mfaultPlace, .ref a14, .ref a15, .int mgoal, .int mgoalDays, .int mgoalHearer, .ref a19, .ref a20, .int mleastOrder, .int mwordsMany, .ref a23, .ref a24, .ref a25, .ref a26, .ref a27, .ref a28])), (a4, .inl (g.2 1, 900, .inl mtape))] := hD
              refine W.eq (g2 := F0 m 135 ls [.int (u215.1 0)]) rfl ?_
              rw [q216_1] at q216_0
              rw [q216_1] at q216_2
              refine tp_i (v := isF mfaultKind mtoken mat mfrom mtape 28) q216_1 ?_
              refine lv_if_eq (tgt := 155) hx hb dX12_readNext_135 (by decide) (fun c217 => ?_) (fun c217 => ?_)
              · have c217 := k_eq (a := (isF mfaultKind mtoken mat mfrom mtape 28).toInt) (b := 0) rfl (by decide) c217
                exact jn6 mfaultKind mfaultPlace _ _ ls (by omega) (by omega)  (hP.sub [1, 2, 0] rfl) (hD.sub [1, 2, 0] (by decide) rfl) hS (lv_sub hl [0, 1] rfl)
              · have c217 := k_ne (a := (isF mfaultKind mtoken mat mfrom mtape 28).toInt) (b := 0) rfl (by decide) c217
                refine lv_aload_n hx hb dX12_readNext_138 rfl (lv_at hl 1 rfl) ?_
                refine g_get (C := RX12) (T := TX12) (N := 29) (ci := 12) (v := .ref a14) FC hKn hP i_X12 1 rfl rfl 14 (by decide) b_1132 rfl dX12_readNext_139 ?_
                refine lv_bipush (v := 8) hx hb dX12_readNext_142 (by decide) ?_
                refine va_iald hx hb hKn.1 hP 0 0 rfl rfl (by unfold vp_in; decide) dX12_readNext_144 ?_
                have kc8 : (8 : Int32).toInt = 8 := by decide
                refine lv_topi (fun z218 e_z218 => ?_)
                have t_z218 : 0 ≤ z218.toInt ∧ z218.toInt ≤ 6 := by rw [e_z218]; exact wk_8 i_mfresh
                have q_z218 : z218.toInt = (mfresh 8).toInt := by rw [e_z218]; rfl
                refine lv_bipush (v := 6) hx hb dX12_readNext_145 (by decide) ?_
                refine lv_icmp_ne (tgt := 155) hx hb dX12_readNext_147 (by decide) (fun c219 => ?_) (fun c219 => ?_)
                · have c219 := k_ne (a := z218.toInt) (b := 6) rfl (by decide) c219
                  exact jn6 mfaultKind mfaultPlace _ _ ls (by omega) (by omega)  (hP.sub [1, 2, 0] rfl) (hD.sub [1, 2, 0] (by decide) rfl) hS (lv_sub hl [0, 1] rfl)
                · have c219 := k_eq (a := z218.toInt) (b := 6) rfl (by decide) c219
                  refine lv_aload_n hx hb dX12_readNext_150 rfl (lv_at hl 1 rfl) ?_
                  refine lv_iconst (v := 3) hx hb dX12_readNext_151 (by decide) ?_
                  have kc3 : (3 : Int32).toInt = 3 := by decide
                  refine call_V (As := [.int 3]) (rest := []) (wr := [(a14, .inl (g.2 0, 225, .inl mfresh)), (a4, .inl (g.2 1, 900, .inl mtape))]) FC hKn hZ (k_X12_errs l g h0 a1 a2 a3 a4 a6 a14 a15 a19 a20 a23 a24 a25 a26 a27 a28 mthrown mtaped msize mat mfrom mtoken mvalue mfaultKind mfaultPlace mgoal mgoalDays mgoalHearer mleastOrder mwordsMany ((3 : Int32)) (by omega) (by omega) (by omega) (by omega) (by omega) (by omega) (by omega) (by omega) (by omega) (by omega)) m_yX12_errs b_1129 (ci := 12) rfl rfl rfl hP hD hS hA [1] [0, 2] rfl (by decide) rfl (by decide) (by decide) rfl hl.1 rfl (Nat.le_of_ble_eq_true rfl) dX12_readNext_152 ⟨(Nat.le_of_ble_eq_true rfl), (Nat.le_of_ble_eq_true rfl)⟩ ⟨(Nat.le_of_ble_eq_true rfl), (Nat.le_of_ble_eq_true rfl)⟩ (fun u220 H locs q221 hP hD hS => ?_)
                  have q221_0 : 1 ≤ (u220.1 1).toInt ∧ (u220.1 1).toInt ≤ 3 := q221
                  have hP : va_P g.1 vwCl [(a14, .inl (g.2 0, 225, .inl mfresh)), (a4, .inl (g.2 1, 900, .inl mtape)), (h0, .inr (12, [.int mthrown, .ref a1, .ref a2, .ref a3, .ref a4, .int mtaped, .ref a6, .int msize, .int mat, .int mfrom, .int mtoken, .int mvalue, .int (u220.1 1), .int (u220.1 2), .ref a14, .ref a15, .int mgoal, .int mgoalDays, .int mgoalHearer, .ref a19, .ref a20, .int mleastOrder, .int mwordsMany, .ref a23, .ref a24, .ref a25, .ref a26, .ref a27, .ref a28]))] H := hP
                  have hD : va_D A [(a14, .inl (g.2 0, 225, .inl mfresh)), (a4, .inl (g.2 1, 900, .inl mtape)), (h0, .inr (12, [.int mthrown, .ref a1, .ref a2, .ref a3, .ref a4, .int mtaped, .ref a6, .int msize, .int mat, .int mfrom, .int mtoken, .int mvalue, .int (u220.1 1), .int (u220.1 2), .ref a14, .ref a15, .int mgoal, .int mgoalDays, .int mgoalHearer, .ref a19, .ref a20, .int mleastOrder, .int mwordsMany, .ref a23, .ref a24, .ref a25, .ref a26, .ref a27, .ref a28]))] := hD
                  refine W.eq (g2 := F0 m 155 ls []) rfl ?_
                  exact jn6 (u220.1 1) (u220.1 2) _ _ ls (by omega) (by omega)  (hP.sub [2, 1, 0] rfl) (hD.sub [2, 1, 0] (by decide) rfl) hS (lv_sub hl [0, 1] rfl)
            · have c214 := k_ne (a := (isF mfaultKind mtoken mat mfrom mtape 27).toInt) (b := 0) rfl (by decide) c214
              refine lv_aload_n hx hb dX12_readNext_118 rfl (lv_at hl 1 rfl) ?_
              refine g_get (C := RX12) (T := TX12) (N := 29) (ci := 12) (v := .ref a14) FC hKn hP i_X12 1 rfl rfl 14 (by decide) b_1132 rfl dX12_readNext_119 ?_
              refine lv_bipush (v := 7) hx hb dX12_readNext_122 (by decide) ?_
              refine va_iald hx hb hKn.1 hP 0 0 rfl rfl (by unfold vp_in; decide) dX12_readNext_124 ?_
              have kc7 : (7 : Int32).toInt = 7 := by decide
              refine lv_topi (fun z222 e_z222 => ?_)
              have t_z222 : 0 ≤ z222.toInt ∧ z222.toInt ≤ 4 := by rw [e_z222]; exact wk_7 i_mfresh
              have q_z222 : z222.toInt = (mfresh 7).toInt := by rw [e_z222]; rfl
              refine lv_iconst (v := 4) hx hb dX12_readNext_125 (by decide) ?_
              refine lv_icmp_eq (tgt := 150) hx hb dX12_readNext_126 (by decide) (fun c223 => ?_) (fun c223 => ?_)
              · have c223 := k_eq (a := z222.toInt) (b := 4) rfl (by decide) c223
                refine lv_aload_n hx hb dX12_readNext_150 rfl (lv_at hl 1 rfl) ?_
                refine lv_iconst (v := 3) hx hb dX12_readNext_151 (by decide) ?_
                have kc3 : (3 : Int32).toInt = 3 := by decide
                refine call_V (As := [.int 3]) (rest := []) (wr := [(a14, .inl (g.2 0, 225, .inl mfresh)), (a4, .inl (g.2 1, 900, .inl mtape))]) FC hKn hZ (k_X12_errs l g h0 a1 a2 a3 a4 a6 a14 a15 a19 a20 a23 a24 a25 a26 a27 a28 mthrown mtaped msize mat mfrom mtoken mvalue mfaultKind mfaultPlace mgoal mgoalDays mgoalHearer mleastOrder mwordsMany ((3 : Int32)) (by omega) (by omega) (by omega) (by omega) (by omega) (by omega) (by omega) (by omega) (by omega) (by omega)) m_yX12_errs b_1129 (ci := 12) rfl rfl rfl hP hD hS hA [1] [0, 2] rfl (by decide) rfl (by decide) (by decide) rfl hl.1 rfl (Nat.le_of_ble_eq_true rfl) dX12_readNext_152 ⟨(Nat.le_of_ble_eq_true rfl), (Nat.le_of_ble_eq_true rfl)⟩ ⟨(Nat.le_of_ble_eq_true rfl), (Nat.le_of_ble_eq_true rfl)⟩ (fun u224 H locs q225 hP hD hS => ?_)
                have q225_0 : 1 ≤ (u224.1 1).toInt ∧ (u224.1 1).toInt ≤ 3 := q225
                have hP : va_P g.1 vwCl [(a14, .inl (g.2 0, 225, .inl mfresh)), (a4, .inl (g.2 1, 900, .inl mtape)), (h0, .inr (12, [.int mthrown, .ref a1, .ref a2, .ref a3, .ref a4, .int mtaped, .ref a6, .int msize, .int mat, .int mfrom, .int mtoken, .int mvalue, .int (u224.1 1), .int (u224.1 2), .ref a14, .ref a15, .int mgoal, .int mgoalDays, .int mgoalHearer, .ref a19, .ref a20, .int mleastOrder, .int mwordsMany, .ref a23, .ref a24, .ref a25, .ref a26, .ref a27, .ref a28]))] H := hP
                have hD : va_D A [(a14, .inl (g.2 0, 225, .inl mfresh)), (a4, .inl (g.2 1, 900, .inl mtape)), (h0, .inr (12, [.int mthrown, .ref a1, .ref a2, .ref a3, .ref a4, .int mtaped, .ref a6, .int msize, .int mat, .int mfrom, .int mtoken, .int mvalue, .int (u224.1 1), .int (u224.1 2), .ref a14, .ref a15, .int mgoal, .int mgoalDays, .int mgoalHearer, .ref a19, .ref a20, .int mleastOrder, .int mwordsMany, .ref a23, .ref a24, .ref a25, .ref a26, .ref a27, .ref a28]))] := hD
                refine W.eq (g2 := F0 m 155 ls []) rfl ?_
                exact jn6 (u224.1 1) (u224.1 2) _ _ ls (by omega) (by omega)  (hP.sub [2, 1, 0] rfl) (hD.sub [2, 1, 0] (by decide) rfl) hS (lv_sub hl [0, 1] rfl)
              · have c223 := k_ne (a := z222.toInt) (b := 4) rfl (by decide) c223
                refine lv_aload_n hx hb dX12_readNext_129 rfl (lv_at hl 1 rfl) ?_
                refine va_ldcS hx hb hown (hZ.2.2 28 _ rfl).1 dX12_readNext_130 ?_
                refine call_V (As := [.ref (sa g 28)]) (rest := []) (wr := [(a14, .inl (g.2 0, 225, .inl mfresh))]) FC hKn hZ (k_X12_is l g 28 h0 a1 a2 a3 a4 a6 a14 a15 a19 a20 a23 a24 a25 a26 a27 a28 mthrown mtaped msize mat mfrom mtoken mvalue mfaultKind mfaultPlace mgoal mgoalDays mgoalHearer mleastOrder mwordsMany mtape (by omega) (by omega) (by omega) (by omega) (by omega) (by omega) (by omega) (by omega) (by omega) (by omega)) m_yX12_is b_1126 (ci := 12) rfl rfl rfl hP hD hS hA [1, 2] [0] rfl (by decide) rfl (by decide) (by decide) rfl hl.1 rfl (Nat.le_of_ble_eq_true rfl) dX12_readNext_132 ⟨(Nat.le_of_ble_eq_true rfl), (Nat.le_of_ble_eq_true rfl)⟩ ⟨(Nat.le_of_ble_eq_true rfl), (Nat.le_of_ble_eq_true rfl)⟩ (fun u226 H locs q227 hP hD hS => ?_)
                obtain ⟨q227_0, q227_1, q227_2⟩ := q227
                have hP : va_P g.1 vwCl [(a14, .inl (g.2 0, 225, .inl mfresh)), (h0, .inr (12, [.int mthrown, .ref a1, .ref a2, .ref a3, .ref a4, .int mtaped, .ref a6, .int msize, .int mat, .int mfrom, .int mtoken, .int mvalue, .int mfaultKind, .int mfaultPlace, .ref a14, .ref a15, .int mgoal, .int mgoalDays, .int mgoalHearer, .ref a19, .ref a20, .int mleastOrder, .int mwordsMany, .ref a23, .ref a24, .ref a25, .ref a26, .ref a27, .ref a28])), (a4, .inl (g.2 1, 900, .inl mtape))] H := hP
                have hD : va_D A [(a14, .inl (g.2 0, 225, .inl mfresh)), (h0, .inr (12, [.int mthrown, .ref a1, .ref a2, .ref a3, .ref a4, .int mtaped, .ref a6, .int msize, .int mat, .int mfrom, .int mtoken, .int mvalue, .int mfaultKind, .int mfaultPlace, .ref a14, .ref a15, .int mgoal, .int mgoalDays, .int mgoalHearer, .ref a19, .ref a20, .int mleastOrder, .int mwordsMany, .ref a23, .ref a24, .ref a25, .ref a26, .ref a27, .ref a28])), (a4, .inl (g.2 1, 900, .inl mtape))] := hD
                refine W.eq (g2 := F0 m 135 ls [.int (u226.1 0)]) rfl ?_
                rw [q227_1] at q227_0
                rw [q227_1] at q227_2
                refine tp_i (v := isF mfaultKind mtoken mat mfrom mtape 28) q227_1 ?_
                refine lv_if_eq (tgt := 155) hx hb dX12_readNext_135 (by decide) (fun c228 => ?_) (fun c228 => ?_)
                · have c228 := k_eq (a := (isF mfaultKind mtoken mat mfrom mtape 28).toInt) (b := 0) rfl (by decide) c228
                  exact jn6 mfaultKind mfaultPlace _ _ ls (by omega) (by omega)  (hP.sub [1, 2, 0] rfl) (hD.sub [1, 2, 0] (by decide) rfl) hS (lv_sub hl [0, 1] rfl)
                · have c228 := k_ne (a := (isF mfaultKind mtoken mat mfrom mtape 28).toInt) (b := 0) rfl (by decide) c228
                  refine lv_aload_n hx hb dX12_readNext_138 rfl (lv_at hl 1 rfl) ?_
                  refine g_get (C := RX12) (T := TX12) (N := 29) (ci := 12) (v := .ref a14) FC hKn hP i_X12 1 rfl rfl 14 (by decide) b_1132 rfl dX12_readNext_139 ?_
                  refine lv_bipush (v := 8) hx hb dX12_readNext_142 (by decide) ?_
                  refine va_iald hx hb hKn.1 hP 0 0 rfl rfl (by unfold vp_in; decide) dX12_readNext_144 ?_
                  have kc8 : (8 : Int32).toInt = 8 := by decide
                  refine lv_topi (fun z229 e_z229 => ?_)
                  have t_z229 : 0 ≤ z229.toInt ∧ z229.toInt ≤ 6 := by rw [e_z229]; exact wk_8 i_mfresh
                  have q_z229 : z229.toInt = (mfresh 8).toInt := by rw [e_z229]; rfl
                  refine lv_bipush (v := 6) hx hb dX12_readNext_145 (by decide) ?_
                  refine lv_icmp_ne (tgt := 155) hx hb dX12_readNext_147 (by decide) (fun c230 => ?_) (fun c230 => ?_)
                  · have c230 := k_ne (a := z229.toInt) (b := 6) rfl (by decide) c230
                    exact jn6 mfaultKind mfaultPlace _ _ ls (by omega) (by omega)  (hP.sub [1, 2, 0] rfl) (hD.sub [1, 2, 0] (by decide) rfl) hS (lv_sub hl [0, 1] rfl)
                  · have c230 := k_eq (a := z229.toInt) (b := 6) rfl (by decide) c230
                    refine lv_aload_n hx hb dX12_readNext_150 rfl (lv_at hl 1 rfl) ?_
                    refine lv_iconst (v := 3) hx hb dX12_readNext_151 (by decide) ?_
                    have kc3 : (3 : Int32).toInt = 3 := by decide
                    refine call_V (As := [.int 3]) (rest := []) (wr := [(a14, .inl (g.2 0, 225, .inl mfresh)), (a4, .inl (g.2 1, 900, .inl mtape))]) FC hKn hZ (k_X12_errs l g h0 a1 a2 a3 a4 a6 a14 a15 a19 a20 a23 a24 a25 a26 a27 a28 mthrown mtaped msize mat mfrom mtoken mvalue mfaultKind mfaultPlace mgoal mgoalDays mgoalHearer mleastOrder mwordsMany ((3 : Int32)) (by omega) (by omega) (by omega) (by omega) (by omega) (by omega) (by omega) (by omega) (by omega) (by omega)) m_yX12_errs b_1129 (ci := 12) rfl rfl rfl hP hD hS hA [1] [0, 2] rfl (by decide) rfl (by decide) (by decide) rfl hl.1 rfl (Nat.le_of_ble_eq_true rfl) dX12_readNext_152 ⟨(Nat.le_of_ble_eq_true rfl), (Nat.le_of_ble_eq_true rfl)⟩ ⟨(Nat.le_of_ble_eq_true rfl), (Nat.le_of_ble_eq_true rfl)⟩ (fun u231 H locs q232 hP hD hS => ?_)
                    have q232_0 : 1 ≤ (u231.1 1).toInt ∧ (u231.1 1).toInt ≤ 3 := q232
                    have hP : va_P g.1 vwCl [(a14, .inl (g.2 0, 225, .inl mfresh)), (a4, .inl (g.2 1, 900, .inl mtape)), (h0, .inr (12, [.int mthrown, .ref a1, .ref a2, .ref a3, .ref a4, .int mtaped, .ref a6, .int msize, .int mat, .int mfrom, .int mtoken, .int mvalue, .int (u231.1 1), .int (u231.1 2), .ref a14, .ref a15, .int mgoal, .int mgoalDays, .int mgoalHearer, .ref a19, .ref a20, .int mleastOrder, .int mwordsMany, .ref a23, .ref a24, .ref a25, .ref a26, .ref a27, .ref a28]))] H := hP
                    have hD : va_D A [(a14, .inl (g.2 0, 225, .inl mfresh)), (a4, .inl (g.2 1, 900, .inl mtape)), (h0, .inr (12, [.int mthrown, .ref a1, .ref a2, .ref a3, .ref a4, .int mtaped, .ref a6, .int msize, .int mat, .int mfrom, .int mtoken, .int mvalue, .int (u231.1 1), .int (u231.1 2), .ref a14, .ref a15, .int mgoal, .int mgoalDays, .int mgoalHearer, .ref a19, .ref a20, .int mleastOrder, .int mwordsMany, .ref a23, .ref a24, .ref a25, .ref a26, .ref a27, .ref a28]))] := hD
                    refine W.eq (g2 := F0 m 155 ls []) rfl ?_
                    exact jn6 (u231.1 1) (u231.1 2) _ _ ls (by omega) (by omega)  (hP.sub [2, 1, 0] rfl) (hD.sub [2, 1, 0] (by decide) rfl) hS (lv_sub hl [0, 1] rfl)
      · have c183 := k_ne (a := (isF mfaultKind mtoken mat mfrom mtape 25).toInt) (b := 0) rfl (by decide) c183
        refine lv_aload_n hx hb dX12_readNext_78 rfl (lv_at hl 1 rfl) ?_
        refine g_get (C := RX12) (T := TX12) (N := 29) (ci := 12) (v := .ref a14) FC hKn hP i_X12 1 rfl rfl 14 (by decide) b_1132 rfl dX12_readNext_79 ?_
        refine lv_iconst (v := 5) hx hb dX12_readNext_82 (by decide) ?_
        refine va_iald hx hb hKn.1 hP 0 0 rfl rfl (by unfold vp_in; decide) dX12_readNext_83 ?_
        have kc5 : (5 : Int32).toInt = 5 := by decide
        refine lv_topi (fun z233 e_z233 => ?_)
        have t_z233 : 0 ≤ z233.toInt ∧ z233.toInt ≤ 4 := by rw [e_z233]; exact wk_5 i_mfresh
        have q_z233 : z233.toInt = (mfresh 5).toInt := by rw [e_z233]; rfl
        refine lv_iconst (v := 4) hx hb dX12_readNext_84 (by decide) ?_
        refine lv_icmp_eq (tgt := 150) hx hb dX12_readNext_85 (by decide) (fun c234 => ?_) (fun c234 => ?_)
        · have c234 := k_eq (a := z233.toInt) (b := 4) rfl (by decide) c234
          refine lv_aload_n hx hb dX12_readNext_150 rfl (lv_at hl 1 rfl) ?_
          refine lv_iconst (v := 3) hx hb dX12_readNext_151 (by decide) ?_
          have kc3 : (3 : Int32).toInt = 3 := by decide
          refine call_V (As := [.int 3]) (rest := []) (wr := [(a14, .inl (g.2 0, 225, .inl mfresh)), (a4, .inl (g.2 1, 900, .inl mtape))]) FC hKn hZ (k_X12_errs l g h0 a1 a2 a3 a4 a6 a14 a15 a19 a20 a23 a24 a25 a26 a27 a28 mthrown mtaped msize mat mfrom mtoken mvalue mfaultKind mfaultPlace mgoal mgoalDays mgoalHearer mleastOrder mwordsMany ((3 : Int32)) (by omega) (by omega) (by omega) (by omega) (by omega) (by omega) (by omega) (by omega) (by omega) (by omega)) m_yX12_errs b_1129 (ci := 12) rfl rfl rfl hP hD hS hA [1] [0, 2] rfl (by decide) rfl (by decide) (by decide) rfl hl.1 rfl (Nat.le_of_ble_eq_true rfl) dX12_readNext_152 ⟨(Nat.le_of_ble_eq_true rfl), (Nat.le_of_ble_eq_true rfl)⟩ ⟨(Nat.le_of_ble_eq_true rfl), (Nat.le_of_ble_eq_true rfl)⟩ (fun u235 H locs q236 hP hD hS => ?_)
          have q236_0 : 1 ≤ (u235.1 1).toInt ∧ (u235.1 1).toInt ≤ 3 := q236
          have hP : va_P g.1 vwCl [(a14, .inl (g.2 0, 225, .inl mfresh)), (a4, .inl (g.2 1, 900, .inl mtape)), (h0, .inr (12, [.int mthrown, .ref a1, .ref a2, .ref a3, .ref a4, .int mtaped, .ref a6, .int msize, .int mat, .int mfrom, .int mtoken, .int mvalue, .int (u235.1 1), .int (u235.1 2), .ref a14, .ref a15, .int mgoal, .int mgoalDays, .int mgoalHearer, .ref a19, .ref a20, .int mleastOrder, .int mwordsMany, .ref a23, .ref a24, .ref a25, .ref a26, .ref a27, .ref a28]))] H := hP
          have hD : va_D A [(a14, .inl (g.2 0, 225, .inl mfresh)), (a4, .inl (g.2 1, 900, .inl mtape)), (h0, .inr (12, [.int mthrown, .ref a1, .ref a2, .ref a3, .ref a4, .int mtaped, .ref a6, .int msize, .int mat, .int mfrom, .int mtoken, .int mvalue, .int (u235.1 1), .int (u235.1 2), .ref a14, .ref a15, .int mgoal, .int mgoalDays, .int mgoalHearer, .ref a19, .ref a20, .int mleastOrder, .int mwordsMany, .ref a23, .ref a24, .ref a25, .ref a26, .ref a27, .ref a28]))] := hD
          refine W.eq (g2 := F0 m 155 ls []) rfl ?_
          exact jn6 (u235.1 1) (u235.1 2) _ _ ls (by omega) (by omega)  (hP.sub [2, 1, 0] rfl) (hD.sub [2, 1, 0] (by decide) rfl) hS (lv_sub hl [0, 1] rfl)
        · have c234 := k_ne (a := z233.toInt) (b := 4) rfl (by decide) c234
          refine lv_aload_n hx hb dX12_readNext_88 rfl (lv_at hl 1 rfl) ?_
          refine va_ldcS hx hb hown (hZ.2.2 26 _ rfl).1 dX12_readNext_89 ?_
          refine call_V (As := [.ref (sa g 26)]) (rest := []) (wr := [(a14, .inl (g.2 0, 225, .inl mfresh))]) FC hKn hZ (k_X12_is l g 26 h0 a1 a2 a3 a4 a6 a14 a15 a19 a20 a23 a24 a25 a26 a27 a28 mthrown mtaped msize mat mfrom mtoken mvalue mfaultKind mfaultPlace mgoal mgoalDays mgoalHearer mleastOrder mwordsMany mtape (by omega) (by omega) (by omega) (by omega) (by omega) (by omega) (by omega) (by omega) (by omega) (by omega)) m_yX12_is b_1126 (ci := 12) rfl rfl rfl hP hD hS hA [1, 2] [0] rfl (by decide) rfl (by decide) (by decide) rfl hl.1 rfl (Nat.le_of_ble_eq_true rfl) dX12_readNext_91 ⟨(Nat.le_of_ble_eq_true rfl), (Nat.le_of_ble_eq_true rfl)⟩ ⟨(Nat.le_of_ble_eq_true rfl), (Nat.le_of_ble_eq_true rfl)⟩ (fun u237 H locs q238 hP hD hS => ?_)
          obtain ⟨q238_0, q238_1, q238_2⟩ := q238
          have hP : va_P g.1 vwCl [(a14, .inl (g.2 0, 225, .inl mfresh)), (h0, .inr (12, [.int mthrown, .ref a1, .ref a2, .ref a3, .ref a4, .int mtaped, .ref a6, .int msize, .int mat, .int mfrom, .int mtoken, .int mvalue, .int mfaultKind, .int mfaultPlace, .ref a14, .ref a15, .int mgoal, .int mgoalDays, .int mgoalHearer, .ref a19, .ref a20, .int mleastOrder, .int mwordsMany, .ref a23, .ref a24, .ref a25, .ref a26, .ref a27, .ref a28])), (a4, .inl (g.2 1, 900, .inl mtape))] H := hP
          have hD : va_D A [(a14, .inl (g.2 0, 225, .inl mfresh)), (h0, .inr (12, [.int mthrown, .ref a1, .ref a2, .ref a3, .ref a4, .int mtaped, .ref a6, .int msize, .int mat, .int mfrom, .int mtoken, .int mvalue, .int mfaultKind, .int mfaultPlace, .ref a14, .ref a15, .int mgoal, .int mgoalDays, .int mgoalHearer, .ref a19, .ref a20, .int mleastOrder, .int mwordsMany, .ref a23, .ref a24, .ref a25, .ref a26, .ref a27, .ref a28])), (a4, .inl (g.2 1, 900, .inl mtape))] := hD
          refine W.eq (g2 := F0 m 94 ls [.int (u237.1 0)]) rfl ?_
          rw [q238_1] at q238_0
          rw [q238_1] at q238_2
          refine tp_i (v := isF mfaultKind mtoken mat mfrom mtape 26) q238_1 ?_
          refine lv_if_eq (tgt := 109) hx hb dX12_readNext_94 (by decide) (fun c239 => ?_) (fun c239 => ?_)
          · have c239 := k_eq (a := (isF mfaultKind mtoken mat mfrom mtape 26).toInt) (b := 0) rfl (by decide) c239
            refine lv_aload_n hx hb dX12_readNext_109 rfl (lv_at hl 1 rfl) ?_
            refine va_ldcS hx hb hown (hZ.2.2 27 _ rfl).1 dX12_readNext_110 ?_
            refine call_V (As := [.ref (sa g 27)]) (rest := []) (wr := [(a14, .inl (g.2 0, 225, .inl mfresh))]) FC hKn hZ (k_X12_is l g 27 h0 a1 a2 a3 a4 a6 a14 a15 a19 a20 a23 a24 a25 a26 a27 a28 mthrown mtaped msize mat mfrom mtoken mvalue mfaultKind mfaultPlace mgoal mgoalDays mgoalHearer mleastOrder mwordsMany mtape (by omega) (by omega) (by omega) (by omega) (by omega) (by omega) (by omega) (by omega) (by omega) (by omega)) m_yX12_is b_1126 (ci := 12) rfl rfl rfl hP hD hS hA [1, 2] [0] rfl (by decide) rfl (by decide) (by decide) rfl hl.1 rfl (Nat.le_of_ble_eq_true rfl) dX12_readNext_112 ⟨(Nat.le_of_ble_eq_true rfl), (Nat.le_of_ble_eq_true rfl)⟩ ⟨(Nat.le_of_ble_eq_true rfl), (Nat.le_of_ble_eq_true rfl)⟩ (fun u240 H locs q241 hP hD hS => ?_)
            obtain ⟨q241_0, q241_1, q241_2⟩ := q241
            have hP : va_P g.1 vwCl [(a14, .inl (g.2 0, 225, .inl mfresh)), (h0, .inr (12, [.int mthrown, .ref a1, .ref a2, .ref a3, .ref a4, .int mtaped, .ref a6, .int msize, .int mat, .int mfrom, .int mtoken, .int mvalue, .int mfaultKind, .int mfaultPlace, .ref a14, .ref a15, .int mgoal, .int mgoalDays, .int mgoalHearer, .ref a19, .ref a20, .int mleastOrder, .int mwordsMany, .ref a23, .ref a24, .ref a25, .ref a26, .ref a27, .ref a28])), (a4, .inl (g.2 1, 900, .inl mtape))] H := hP
            have hD : va_D A [(a14, .inl (g.2 0, 225, .inl mfresh)), (h0, .inr (12, [.int mthrown, .ref a1, .ref a2, .ref a3, .ref a4, .int mtaped, .ref a6, .int msize, .int mat, .int mfrom, .int mtoken, .int mvalue, .int mfaultKind, .int mfaultPlace, .ref a14, .ref a15, .int mgoal, .int mgoalDays, .int mgoalHearer, .ref a19, .ref a20, .int mleastOrder, .int mwordsMany, .ref a23, .ref a24, .ref a25, .ref a26, .ref a27, .ref a28])), (a4, .inl (g.2 1, 900, .inl mtape))] := hD
            refine W.eq (g2 := F0 m 115 ls [.int (u240.1 0)]) rfl ?_
            rw [q241_1] at q241_0
            rw [q241_1] at q241_2
            refine tp_i (v := isF mfaultKind mtoken mat mfrom mtape 27) q241_1 ?_
            refine lv_if_eq (tgt := 129) hx hb dX12_readNext_115 (by decide) (fun c242 => ?_) (fun c242 => ?_)
            · have c242 := k_eq (a := (isF mfaultKind mtoken mat mfrom mtape 27).toInt) (b := 0) rfl (by decide) c242
              refine lv_aload_n hx hb dX12_readNext_129 rfl (lv_at hl 1 rfl) ?_
              refine va_ldcS hx hb hown (hZ.2.2 28 _ rfl).1 dX12_readNext_130 ?_
              refine call_V (As := [.ref (sa g 28)]) (rest := []) (wr := [(a14, .inl (g.2 0, 225, .inl mfresh))]) FC hKn hZ (k_X12_is l g 28 h0 a1 a2 a3 a4 a6 a14 a15 a19 a20 a23 a24 a25 a26 a27 a28 mthrown mtaped msize mat mfrom mtoken mvalue mfaultKind mfaultPlace mgoal mgoalDays mgoalHearer mleastOrder mwordsMany mtape (by omega) (by omega) (by omega) (by omega) (by omega) (by omega) (by omega) (by omega) (by omega) (by omega)) m_yX12_is b_1126 (ci := 12) rfl rfl rfl hP hD hS hA [1, 2] [0] rfl (by decide) rfl (by decide) (by decide) rfl hl.1 rfl (Nat.le_of_ble_eq_true rfl) dX12_readNext_132 ⟨(Nat.le_of_ble_eq_true rfl), (Nat.le_of_ble_eq_true rfl)⟩ ⟨(Nat.le_of_ble_eq_true rfl), (Nat.le_of_ble_eq_true rfl)⟩ (fun u243 H locs q244 hP hD hS => ?_)
              obtain ⟨q244_0, q244_1, q244_2⟩ := q244
              have hP : va_P g.1 vwCl [(a14, .inl (g.2 0, 225, .inl mfresh)), (h0, .inr (12, [.int mthrown, .ref a1, .ref a2, .ref a3, .ref a4, .int mtaped, .ref a6, .int msize, .int mat, .int mfrom, .int mtoken, .int mvalue, .int mfaultKind, .int mfaultPlace, .ref a14, .ref a15, .int mgoal, .int mgoalDays, .int mgoalHearer, .ref a19, .ref a20, .int mleastOrder, .int mwordsMany, .ref a23, .ref a24, .ref a25, .ref a26, .ref a27, .ref a28])), (a4, .inl (g.2 1, 900, .inl mtape))] H := hP
              have hD : va_D A [(a14, .inl (g.2 0, 225, .inl mfresh)), (h0, .inr (12, [.int mthrown, .ref a1, .ref a2, .ref a3, .ref a4, .int mtaped, .ref a6, .int msize, .int mat, .int mfrom, .int mtoken, .int mvalue, .int mfaultKind, .int mfaultPlace, .ref a14, .ref a15, .int mgoal, .int mgoalDays, .int mgoalHearer, .ref a19, .ref a20, .int mleastOrder, .int mwordsMany, .ref a23, .ref a24, .ref a25, .ref a26, .ref a27, .ref a28])), (a4, .inl (g.2 1, 900, .inl mtape))] := hD
              refine W.eq (g2 := F0 m 135 ls [.int (u243.1 0)]) rfl ?_
              rw [q244_1] at q244_0
              rw [q244_1] at q244_2
              refine tp_i (v := isF mfaultKind mtoken mat mfrom mtape 28) q244_1 ?_
              refine lv_if_eq (tgt := 155) hx hb dX12_readNext_135 (by decide) (fun c245 => ?_) (fun c245 => ?_)
              · have c245 := k_eq (a := (isF mfaultKind mtoken mat mfrom mtape 28).toInt) (b := 0) rfl (by decide) c245
                exact jn6 mfaultKind mfaultPlace _ _ ls (by omega) (by omega)  (hP.sub [1, 2, 0] rfl) (hD.sub [1, 2, 0] (by decide) rfl) hS (lv_sub hl [0, 1] rfl)
              · have c245 := k_ne (a := (isF mfaultKind mtoken mat mfrom mtape 28).toInt) (b := 0) rfl (by decide) c245
                refine lv_aload_n hx hb dX12_readNext_138 rfl (lv_at hl 1 rfl) ?_
                refine g_get (C := RX12) (T := TX12) (N := 29) (ci := 12) (v := .ref a14) FC hKn hP i_X12 1 rfl rfl 14 (by decide) b_1132 rfl dX12_readNext_139 ?_
                refine lv_bipush (v := 8) hx hb dX12_readNext_142 (by decide) ?_
                refine va_iald hx hb hKn.1 hP 0 0 rfl rfl (by unfold vp_in; decide) dX12_readNext_144 ?_
                have kc8 : (8 : Int32).toInt = 8 := by decide
                refine lv_topi (fun z246 e_z246 => ?_)
                have t_z246 : 0 ≤ z246.toInt ∧ z246.toInt ≤ 6 := by rw [e_z246]; exact wk_8 i_mfresh
                have q_z246 : z246.toInt = (mfresh 8).toInt := by rw [e_z246]; rfl
                refine lv_bipush (v := 6) hx hb dX12_readNext_145 (by decide) ?_
                refine lv_icmp_ne (tgt := 155) hx hb dX12_readNext_147 (by decide) (fun c247 => ?_) (fun c247 => ?_)
                · have c247 := k_ne (a := z246.toInt) (b := 6) rfl (by decide) c247
                  exact jn6 mfaultKind mfaultPlace _ _ ls (by omega) (by omega)  (hP.sub [1, 2, 0] rfl) (hD.sub [1, 2, 0] (by decide) rfl) hS (lv_sub hl [0, 1] rfl)
                · have c247 := k_eq (a := z246.toInt) (b := 6) rfl (by decide) c247
                  refine lv_aload_n hx hb dX12_readNext_150 rfl (lv_at hl 1 rfl) ?_
                  refine lv_iconst (v := 3) hx hb dX12_readNext_151 (by decide) ?_
                  have kc3 : (3 : Int32).toInt = 3 := by decide
                  refine call_V (As := [.int 3]) (rest := []) (wr := [(a14, .inl (g.2 0, 225, .inl mfresh)), (a4, .inl (g.2 1, 900, .inl mtape))]) FC hKn hZ (k_X12_errs l g h0 a1 a2 a3 a4 a6 a14 a15 a19 a20 a23 a24 a25 a26 a27 a28 mthrown mtaped msize mat mfrom mtoken mvalue mfaultKind mfaultPlace mgoal mgoalDays mgoalHearer mleastOrder mwordsMany ((3 : Int32)) (by omega) (by omega) (by omega) (by omega) (by omega) (by omega) (by omega) (by omega) (by omega) (by omega)) m_yX12_errs b_1129 (ci := 12) rfl rfl rfl hP hD hS hA [1] [0, 2] rfl (by decide) rfl (by decide) (by decide) rfl hl.1 rfl (Nat.le_of_ble_eq_true rfl) dX12_readNext_152 ⟨(Nat.le_of_ble_eq_true rfl), (Nat.le_of_ble_eq_true rfl)⟩ ⟨(Nat.le_of_ble_eq_true rfl), (Nat.le_of_ble_eq_true rfl)⟩ (fun u248 H locs q249 hP hD hS => ?_)
                  have q249_0 : 1 ≤ (u248.1 1).toInt ∧ (u248.1 1).toInt ≤ 3 := q249
                  have hP : va_P g.1 vwCl [(a14, .inl (g.2 0, 225, .inl mfresh)), (a4, .inl (g.2 1, 900, .inl mtape)), (h0, .inr (12, [.int mthrown, .ref a1, .ref a2, .ref a3, .ref a4, .int mtaped, .ref a6, .int msize, .int mat, .int mfrom, .int mtoken, .int mvalue, .int (u248.1 1), .int (u248.1 2), .ref a14, .ref a15, .int mgoal, .int mgoalDays, .int mgoalHearer, .ref a19, .ref a20, .int mleastOrder, .int mwordsMany, .ref a23, .ref a24, .ref a25, .ref a26, .ref a27, .ref a28]))] H := hP
                  have hD : va_D A [(a14, .inl (g.2 0, 225, .inl mfresh)), (a4, .inl (g.2 1, 900, .inl mtape)), (h0, .inr (12, [.int mthrown, .ref a1, .ref a2, .ref a3, .ref a4, .int mtaped, .ref a6, .int msize, .int mat, .int mfrom, .int mtoken, .int mvalue, .int (u248.1 1), .int (u248.1 2), .ref a14, .ref a15, .int mgoal, .int mgoalDays, .int mgoalHearer, .ref a19, .ref a20, .int mleastOrder, .int mwordsMany, .ref a23, .ref a24, .ref a25, .ref a26, .ref a27, .ref a28]))] := hD
                  refine W.eq (g2 := F0 m 155 ls []) rfl ?_
                  exact jn6 (u248.1 1) (u248.1 2) _ _ ls (by omega) (by omega)  (hP.sub [2, 1, 0] rfl) (hD.sub [2, 1, 0] (by decide) rfl) hS (lv_sub hl [0, 1] rfl)
            · have c242 := k_ne (a := (isF mfaultKind mtoken mat mfrom mtape 27).toInt) (b := 0) rfl (by decide) c242
              refine lv_aload_n hx hb dX12_readNext_118 rfl (lv_at hl 1 rfl) ?_
              refine g_get (C := RX12) (T := TX12) (N := 29) (ci := 12) (v := .ref a14) FC hKn hP i_X12 1 rfl rfl 14 (by decide) b_1132 rfl dX12_readNext_119 ?_
              refine lv_bipush (v := 7) hx hb dX12_readNext_122 (by decide) ?_
              refine va_iald hx hb hKn.1 hP 0 0 rfl rfl (by unfold vp_in; decide) dX12_readNext_124 ?_
              have kc7 : (7 : Int32).toInt = 7 := by decide
              refine lv_topi (fun z250 e_z250 => ?_)
              have t_z250 : 0 ≤ z250.toInt ∧ z250.toInt ≤ 4 := by rw [e_z250]; exact wk_7 i_mfresh
              have q_z250 : z250.toInt = (mfresh 7).toInt := by rw [e_z250]; rfl
              refine lv_iconst (v := 4) hx hb dX12_readNext_125 (by decide) ?_
              refine lv_icmp_eq (tgt := 150) hx hb dX12_readNext_126 (by decide) (fun c251 => ?_) (fun c251 => ?_)
              · have c251 := k_eq (a := z250.toInt) (b := 4) rfl (by decide) c251
                refine lv_aload_n hx hb dX12_readNext_150 rfl (lv_at hl 1 rfl) ?_
                refine lv_iconst (v := 3) hx hb dX12_readNext_151 (by decide) ?_
                have kc3 : (3 : Int32).toInt = 3 := by decide
                refine call_V (As := [.int 3]) (rest := []) (wr := [(a14, .inl (g.2 0, 225, .inl mfresh)), (a4, .inl (g.2 1, 900, .inl mtape))]) FC hKn hZ (k_X12_errs l g h0 a1 a2 a3 a4 a6 a14 a15 a19 a20 a23 a24 a25 a26 a27 a28 mthrown mtaped msize mat mfrom mtoken mvalue mfaultKind mfaultPlace mgoal mgoalDays mgoalHearer mleastOrder mwordsMany ((3 : Int32)) (by omega) (by omega) (by omega) (by omega) (by omega) (by omega) (by omega) (by omega) (by omega) (by omega)) m_yX12_errs b_1129 (ci := 12) rfl rfl rfl hP hD hS hA [1] [0, 2] rfl (by decide) rfl (by decide) (by decide) rfl hl.1 rfl (Nat.le_of_ble_eq_true rfl) dX12_readNext_152 ⟨(Nat.le_of_ble_eq_true rfl), (Nat.le_of_ble_eq_true rfl)⟩ ⟨(Nat.le_of_ble_eq_true rfl), (Nat.le_of_ble_eq_true rfl)⟩ (fun u252 H locs q253 hP hD hS => ?_)
                have q253_0 : 1 ≤ (u252.1 1).toInt ∧ (u252.1 1).toInt ≤ 3 := q253
                have hP : va_P g.1 vwCl [(a14, .inl (g.2 0, 225, .inl mfresh)), (a4, .inl (g.2 1, 900, .inl mtape)), (h0, .inr (12, [.int mthrown, .ref a1, .ref a2, .ref a3, .ref a4, .int mtaped, .ref a6, .int msize, .int mat, .int mfrom, .int mtoken, .int mvalue, .int (u252.1 1), .int (u252.1 2), .ref a14, .ref a15, .int mgoal, .int mgoalDays, .int mgoalHearer, .ref a19, .ref a20, .int mleastOrder, .int mwordsMany, .ref a23, .ref a24, .ref a25, .ref a26, .ref a27, .ref a28]))] H := hP
                have hD : va_D A [(a14, .inl (g.2 0, 225, .inl mfresh)), (a4, .inl (g.2 1, 900, .inl mtape)), (h0, .inr (12, [.int mthrown, .ref a1, .ref a2, .ref a3, .ref a4, .int mtaped, .ref a6, .int msize, .int mat, .int mfrom, .int mtoken, .int mvalue, .int (u252.1 1), .int (u252.1 2), .ref a14, .ref a15, .int mgoal, .int mgoalDays, .int mgoalHearer, .ref a19, .ref a20, .int mleastOrder, .int mwordsMany, .ref a23, .ref a24, .ref a25, .ref a26, .ref a27, .ref a28]))] := hD
                refine W.eq (g2 := F0 m 155 ls []) rfl ?_
                exact jn6 (u252.1 1) (u252.1 2) _ _ ls (by omega) (by omega)  (hP.sub [2, 1, 0] rfl) (hD.sub [2, 1, 0] (by decide) rfl) hS (lv_sub hl [0, 1] rfl)
              · have c251 := k_ne (a := z250.toInt) (b := 4) rfl (by decide) c251
                refine lv_aload_n hx hb dX12_readNext_129 rfl (lv_at hl 1 rfl) ?_
                refine va_ldcS hx hb hown (hZ.2.2 28 _ rfl).1 dX12_readNext_130 ?_
                refine call_V (As := [.ref (sa g 28)]) (rest := []) (wr := [(a14, .inl (g.2 0, 225, .inl mfresh))]) FC hKn hZ (k_X12_is l g 28 h0 a1 a2 a3 a4 a6 a14 a15 a19 a20 a23 a24 a25 a26 a27 a28 mthrown mtaped msize mat mfrom mtoken mvalue mfaultKind mfaultPlace mgoal mgoalDays mgoalHearer mleastOrder mwordsMany mtape (by omega) (by omega) (by omega) (by omega) (by omega) (by omega) (by omega) (by omega) (by omega) (by omega)) m_yX12_is b_1126 (ci := 12) rfl rfl rfl hP hD hS hA [1, 2] [0] rfl (by decide) rfl (by decide) (by decide) rfl hl.1 rfl (Nat.le_of_ble_eq_true rfl) dX12_readNext_132 ⟨(Nat.le_of_ble_eq_true rfl), (Nat.le_of_ble_eq_true rfl)⟩ ⟨(Nat.le_of_ble_eq_true rfl), (Nat.le_of_ble_eq_true rfl)⟩ (fun u254 H locs q255 hP hD hS => ?_)
                obtain ⟨q255_0, q255_1, q255_2⟩ := q255
                have hP : va_P g.1 vwCl [(a14, .inl (g.2 0, 225, .inl mfresh)), (h0, .inr (12, [.int mthrown, .ref a1, .ref a2, .ref a3, .ref a4, .int mtaped, .ref a6, .int msize, .int mat, .int mfrom, .int mtoken, .int mvalue, .int mfaultKind, .int mfaultPlace, .ref a14, .ref a15, .int mgoal, .int mgoalDays, .int mgoalHearer, .ref a19, .ref a20, .int mleastOrder, .int mwordsMany, .ref a23, .ref a24, .ref a25, .ref a26, .ref a27, .ref a28])), (a4, .inl (g.2 1, 900, .inl mtape))] H := hP
                have hD : va_D A [(a14, .inl (g.2 0, 225, .inl mfresh)), (h0, .inr (12, [.int mthrown, .ref a1, .ref a2, .ref a3, .ref a4, .int mtaped, .ref a6, .int msize, .int mat, .int mfrom, .int mtoken, .int mvalue, .int mfaultKind, .int mfaultPlace, .ref a14, .ref a15, .int mgoal, .int mgoalDays, .int mgoalHearer, .ref a19, .ref a20, .int mleastOrder, .int mwordsMany, .ref a23, .ref a24, .ref a25, .ref a26, .ref a27, .ref a28])), (a4, .inl (g.2 1, 900, .inl mtape))] := hD
                refine W.eq (g2 := F0 m 135 ls [.int (u254.1 0)]) rfl ?_
                rw [q255_1] at q255_0
                rw [q255_1] at q255_2
                refine tp_i (v := isF mfaultKind mtoken mat mfrom mtape 28) q255_1 ?_
                refine lv_if_eq (tgt := 155) hx hb dX12_readNext_135 (by decide) (fun c256 => ?_) (fun c256 => ?_)
                · have c256 := k_eq (a := (isF mfaultKind mtoken mat mfrom mtape 28).toInt) (b := 0) rfl (by decide) c256
                  exact jn6 mfaultKind mfaultPlace _ _ ls (by omega) (by omega)  (hP.sub [1, 2, 0] rfl) (hD.sub [1, 2, 0] (by decide) rfl) hS (lv_sub hl [0, 1] rfl)
                · have c256 := k_ne (a := (isF mfaultKind mtoken mat mfrom mtape 28).toInt) (b := 0) rfl (by decide) c256
                  refine lv_aload_n hx hb dX12_readNext_138 rfl (lv_at hl 1 rfl) ?_
                  refine g_get (C := RX12) (T := TX12) (N := 29) (ci := 12) (v := .ref a14) FC hKn hP i_X12 1 rfl rfl 14 (by decide) b_1132 rfl dX12_readNext_139 ?_
                  refine lv_bipush (v := 8) hx hb dX12_readNext_142 (by decide) ?_
                  refine va_iald hx hb hKn.1 hP 0 0 rfl rfl (by unfold vp_in; decide) dX12_readNext_144 ?_
                  have kc8 : (8 : Int32).toInt = 8 := by decide
                  refine lv_topi (fun z257 e_z257 => ?_)
                  have t_z257 : 0 ≤ z257.toInt ∧ z257.toInt ≤ 6 := by rw [e_z257]; exact wk_8 i_mfresh
                  have q_z257 : z257.toInt = (mfresh 8).toInt := by rw [e_z257]; rfl
                  refine lv_bipush (v := 6) hx hb dX12_readNext_145 (by decide) ?_
                  refine lv_icmp_ne (tgt := 155) hx hb dX12_readNext_147 (by decide) (fun c258 => ?_) (fun c258 => ?_)
                  · have c258 := k_ne (a := z257.toInt) (b := 6) rfl (by decide) c258
                    exact jn6 mfaultKind mfaultPlace _ _ ls (by omega) (by omega)  (hP.sub [1, 2, 0] rfl) (hD.sub [1, 2, 0] (by decide) rfl) hS (lv_sub hl [0, 1] rfl)
                  · have c258 := k_eq (a := z257.toInt) (b := 6) rfl (by decide) c258
                    refine lv_aload_n hx hb dX12_readNext_150 rfl (lv_at hl 1 rfl) ?_
                    refine lv_iconst (v := 3) hx hb dX12_readNext_151 (by decide) ?_
                    have kc3 : (3 : Int32).toInt = 3 := by decide
                    refine call_V (As := [.int 3]) (rest := []) (wr := [(a14, .inl (g.2 0, 225, .inl mfresh)), (a4, .inl (g.2 1, 900, .inl mtape))]) FC hKn hZ (k_X12_errs l g h0 a1 a2 a3 a4 a6 a14 a15 a19 a20 a23 a24 a25 a26 a27 a28 mthrown mtaped msize mat mfrom mtoken mvalue mfaultKind mfaultPlace mgoal mgoalDays mgoalHearer mleastOrder mwordsMany ((3 : Int32)) (by omega) (by omega) (by omega) (by omega) (by omega) (by omega) (by omega) (by omega) (by omega) (by omega)) m_yX12_errs b_1129 (ci := 12) rfl rfl rfl hP hD hS hA [1] [0, 2] rfl (by decide) rfl (by decide) (by decide) rfl hl.1 rfl (Nat.le_of_ble_eq_true rfl) dX12_readNext_152 ⟨(Nat.le_of_ble_eq_true rfl), (Nat.le_of_ble_eq_true rfl)⟩ ⟨(Nat.le_of_ble_eq_true rfl), (Nat.le_of_ble_eq_true rfl)⟩ (fun u259 H locs q260 hP hD hS => ?_)
                    have q260_0 : 1 ≤ (u259.1 1).toInt ∧ (u259.1 1).toInt ≤ 3 := q260
                    have hP : va_P g.1 vwCl [(a14, .inl (g.2 0, 225, .inl mfresh)), (a4, .inl (g.2 1, 900, .inl mtape)), (h0, .inr (12, [.int mthrown, .ref a1, .ref a2, .ref a3, .ref a4, .int mtaped, .ref a6, .int msize, .int mat, .int mfrom, .int mtoken, .int mvalue, .int (u259.1 1), .int (u259.1 2), .ref a14, .ref a15, .int mgoal, .int mgoalDays, .int mgoalHearer, .ref a19, .ref a20, .int mleastOrder, .int mwordsMany, .ref a23, .ref a24, .ref a25, .ref a26, .ref a27, .ref a28]))] H := hP
                    have hD : va_D A [(a14, .inl (g.2 0, 225, .inl mfresh)), (a4, .inl (g.2 1, 900, .inl mtape)), (h0, .inr (12, [.int mthrown, .ref a1, .ref a2, .ref a3, .ref a4, .int mtaped, .ref a6, .int msize, .int mat, .int mfrom, .int mtoken, .int mvalue, .int (u259.1 1), .int (u259.1 2), .ref a14, .ref a15, .int mgoal, .int mgoalDays, .int mgoalHearer, .ref a19, .ref a20, .int mleastOrder, .int mwordsMany, .ref a23, .ref a24, .ref a25, .ref a26, .ref a27, .ref a28]))] := hD
                    refine W.eq (g2 := F0 m 155 ls []) rfl ?_
                    exact jn6 (u259.1 1) (u259.1 2) _ _ ls (by omega) (by omega)  (hP.sub [2, 1, 0] rfl) (hD.sub [2, 1, 0] (by decide) rfl) hS (lv_sub hl [0, 1] rfl)
          · have c239 := k_ne (a := (isF mfaultKind mtoken mat mfrom mtape 26).toInt) (b := 0) rfl (by decide) c239
            refine lv_aload_n hx hb dX12_readNext_97 rfl (lv_at hl 1 rfl) ?_
            refine g_get (C := RX12) (T := TX12) (N := 29) (ci := 12) (v := .ref a14) FC hKn hP i_X12 1 rfl rfl 14 (by decide) b_1132 rfl dX12_readNext_98 ?_
            refine lv_bipush (v := 6) hx hb dX12_readNext_101 (by decide) ?_
            refine va_iald hx hb hKn.1 hP 0 0 rfl rfl (by unfold vp_in; decide) dX12_readNext_103 ?_
            have kc6 : (6 : Int32).toInt = 6 := by decide
            refine lv_topi (fun z261 e_z261 => ?_)
            have t_z261 : 0 ≤ z261.toInt ∧ z261.toInt ≤ 8 := by rw [e_z261]; exact wk_6 i_mfresh
            have q_z261 : z261.toInt = (mfresh 6).toInt := by rw [e_z261]; rfl
            refine lv_bipush (v := 8) hx hb dX12_readNext_104 (by decide) ?_
            refine lv_icmp_eq (tgt := 150) hx hb dX12_readNext_106 (by decide) (fun c262 => ?_) (fun c262 => ?_)
            · have c262 := k_eq (a := z261.toInt) (b := 8) rfl (by decide) c262
              refine lv_aload_n hx hb dX12_readNext_150 rfl (lv_at hl 1 rfl) ?_
              refine lv_iconst (v := 3) hx hb dX12_readNext_151 (by decide) ?_
              have kc3 : (3 : Int32).toInt = 3 := by decide
              refine call_V (As := [.int 3]) (rest := []) (wr := [(a14, .inl (g.2 0, 225, .inl mfresh)), (a4, .inl (g.2 1, 900, .inl mtape))]) FC hKn hZ (k_X12_errs l g h0 a1 a2 a3 a4 a6 a14 a15 a19 a20 a23 a24 a25 a26 a27 a28 mthrown mtaped msize mat mfrom mtoken mvalue mfaultKind mfaultPlace mgoal mgoalDays mgoalHearer mleastOrder mwordsMany ((3 : Int32)) (by omega) (by omega) (by omega) (by omega) (by omega) (by omega) (by omega) (by omega) (by omega) (by omega)) m_yX12_errs b_1129 (ci := 12) rfl rfl rfl hP hD hS hA [1] [0, 2] rfl (by decide) rfl (by decide) (by decide) rfl hl.1 rfl (Nat.le_of_ble_eq_true rfl) dX12_readNext_152 ⟨(Nat.le_of_ble_eq_true rfl), (Nat.le_of_ble_eq_true rfl)⟩ ⟨(Nat.le_of_ble_eq_true rfl), (Nat.le_of_ble_eq_true rfl)⟩ (fun u263 H locs q264 hP hD hS => ?_)
              have q264_0 : 1 ≤ (u263.1 1).toInt ∧ (u263.1 1).toInt ≤ 3 := q264
              have hP : va_P g.1 vwCl [(a14, .inl (g.2 0, 225, .inl mfresh)), (a4, .inl (g.2 1, 900, .inl mtape)), (h0, .inr (12, [.int mthrown, .ref a1, .ref a2, .ref a3, .ref a4, .int mtaped, .ref a6, .int msize, .int mat, .int mfrom, .int mtoken, .int mvalue, .int (u263.1 1), .int (u263.1 2), .ref a14, .ref a15, .int mgoal, .int mgoalDays, .int mgoalHearer, .ref a19, .ref a20, .int mleastOrder, .int mwordsMany, .ref a23, .ref a24, .ref a25, .ref a26, .ref a27, .ref a28]))] H := hP
              have hD : va_D A [(a14, .inl (g.2 0, 225, .inl mfresh)), (a4, .inl (g.2 1, 900, .inl mtape)), (h0, .inr (12, [.int mthrown, .ref a1, .ref a2, .ref a3, .ref a4, .int mtaped, .ref a6, .int msize, .int mat, .int mfrom, .int mtoken, .int mvalue, .int (u263.1 1), .int (u263.1 2), .ref a14, .ref a15, .int mgoal, .int mgoalDays, .int mgoalHearer, .ref a19, .ref a20, .int mleastOrder, .int mwordsMany, .ref a23, .ref a24, .ref a25, .ref a26, .ref a27, .ref a28]))] := hD
              refine W.eq (g2 := F0 m 155 ls []) rfl ?_
              exact jn6 (u263.1 1) (u263.1 2) _ _ ls (by omega) (by omega)  (hP.sub [2, 1, 0] rfl) (hD.sub [2, 1, 0] (by decide) rfl) hS (lv_sub hl [0, 1] rfl)
            · have c262 := k_ne (a := z261.toInt) (b := 8) rfl (by decide) c262
              refine lv_aload_n hx hb dX12_readNext_109 rfl (lv_at hl 1 rfl) ?_
              refine va_ldcS hx hb hown (hZ.2.2 27 _ rfl).1 dX12_readNext_110 ?_
              refine call_V (As := [.ref (sa g 27)]) (rest := []) (wr := [(a14, .inl (g.2 0, 225, .inl mfresh))]) FC hKn hZ (k_X12_is l g 27 h0 a1 a2 a3 a4 a6 a14 a15 a19 a20 a23 a24 a25 a26 a27 a28 mthrown mtaped msize mat mfrom mtoken mvalue mfaultKind mfaultPlace mgoal mgoalDays mgoalHearer mleastOrder mwordsMany mtape (by omega) (by omega) (by omega) (by omega) (by omega) (by omega) (by omega) (by omega) (by omega) (by omega)) m_yX12_is b_1126 (ci := 12) rfl rfl rfl hP hD hS hA [1, 2] [0] rfl (by decide) rfl (by decide) (by decide) rfl hl.1 rfl (Nat.le_of_ble_eq_true rfl) dX12_readNext_112 ⟨(Nat.le_of_ble_eq_true rfl), (Nat.le_of_ble_eq_true rfl)⟩ ⟨(Nat.le_of_ble_eq_true rfl), (Nat.le_of_ble_eq_true rfl)⟩ (fun u265 H locs q266 hP hD hS => ?_)
              obtain ⟨q266_0, q266_1, q266_2⟩ := q266
              have hP : va_P g.1 vwCl [(a14, .inl (g.2 0, 225, .inl mfresh)), (h0, .inr (12, [.int mthrown, .ref a1, .ref a2, .ref a3, .ref a4, .int mtaped, .ref a6, .int msize, .int mat, .int mfrom, .int mtoken, .int mvalue, .int mfaultKind, .int mfaultPlace, .ref a14, .ref a15, .int mgoal, .int mgoalDays, .int mgoalHearer, .ref a19, .ref a20, .int mleastOrder, .int mwordsMany, .ref a23, .ref a24, .ref a25, .ref a26, .ref a27, .ref a28])), (a4, .inl (g.2 1, 900, .inl mtape))] H := hP
              have hD : va_D A [(a14, .inl (g.2 0, 225, .inl mfresh)), (h0, .inr (12, [.int mthrown, .ref a1, .ref a2, .ref a3, .ref a4, .int mtaped, .ref a6, .int msize, .int mat, .int mfrom, .int mtoken, .int mvalue, .int mfaultKind, .int mfaultPlace, .ref a14, .ref a15, .int mgoal, .int mgoalDays, .int mgoalHearer, .ref a19, .ref a20, .int mleastOrder, .int mwordsMany, .ref a23, .ref a24, .ref a25, .ref a26, .ref a27, .ref a28])), (a4, .inl (g.2 1, 900, .inl mtape))] := hD
              refine W.eq (g2 := F0 m 115 ls [.int (u265.1 0)]) rfl ?_
              rw [q266_1] at q266_0
              rw [q266_1] at q266_2
              refine tp_i (v := isF mfaultKind mtoken mat mfrom mtape 27) q266_1 ?_
              refine lv_if_eq (tgt := 129) hx hb dX12_readNext_115 (by decide) (fun c267 => ?_) (fun c267 => ?_)
              · have c267 := k_eq (a := (isF mfaultKind mtoken mat mfrom mtape 27).toInt) (b := 0) rfl (by decide) c267
                refine lv_aload_n hx hb dX12_readNext_129 rfl (lv_at hl 1 rfl) ?_
                refine va_ldcS hx hb hown (hZ.2.2 28 _ rfl).1 dX12_readNext_130 ?_
                refine call_V (As := [.ref (sa g 28)]) (rest := []) (wr := [(a14, .inl (g.2 0, 225, .inl mfresh))]) FC hKn hZ (k_X12_is l g 28 h0 a1 a2 a3 a4 a6 a14 a15 a19 a20 a23 a24 a25 a26 a27 a28 mthrown mtaped msize mat mfrom mtoken mvalue mfaultKind mfaultPlace mgoal mgoalDays mgoalHearer mleastOrder mwordsMany mtape (by omega) (by omega) (by omega) (by omega) (by omega) (by omega) (by omega) (by omega) (by omega) (by omega)) m_yX12_is b_1126 (ci := 12) rfl rfl rfl hP hD hS hA [1, 2] [0] rfl (by decide) rfl (by decide) (by decide) rfl hl.1 rfl (Nat.le_of_ble_eq_true rfl) dX12_readNext_132 ⟨(Nat.le_of_ble_eq_true rfl), (Nat.le_of_ble_eq_true rfl)⟩ ⟨(Nat.le_of_ble_eq_true rfl), (Nat.le_of_ble_eq_true rfl)⟩ (fun u268 H locs q269 hP hD hS => ?_)
                obtain ⟨q269_0, q269_1, q269_2⟩ := q269
                have hP : va_P g.1 vwCl [(a14, .inl (g.2 0, 225, .inl mfresh)), (h0, .inr (12, [.int mthrown, .ref a1, .ref a2, .ref a3, .ref a4, .int mtaped, .ref a6, .int msize, .int mat, .int mfrom, .int mtoken, .int mvalue, .int mfaultKind, .int mfaultPlace, .ref a14, .ref a15, .int mgoal, .int mgoalDays, .int mgoalHearer, .ref a19, .ref a20, .int mleastOrder, .int mwordsMany, .ref a23, .ref a24, .ref a25, .ref a26, .ref a27, .ref a28])), (a4, .inl (g.2 1, 900, .inl mtape))] H := hP
                have hD : va_D A [(a14, .inl (g.2 0, 225, .inl mfresh)), (h0, .inr (12, [.int mthrown, .ref a1, .ref a2, .ref a3, .ref a4, .int mtaped, .ref a6, .int msize, .int mat, .int mfrom, .int mtoken, .int mvalue, .int mfaultKind, .int mfaultPlace, .ref a14, .ref a15, .int mgoal, .int mgoalDays, .int mgoalHearer, .ref a19, .ref a20, .int mleastOrder, .int mwordsMany, .ref a23, .ref a24, .ref a25, .ref a26, .ref a27, .ref a28])), (a4, .inl (g.2 1, 900, .inl mtape))] := hD
                refine W.eq (g2 := F0 m 135 ls [.int (u268.1 0)]) rfl ?_
                rw [q269_1] at q269_0
                rw [q269_1] at q269_2
                refine tp_i (v := isF mfaultKind mtoken mat mfrom mtape 28) q269_1 ?_
                refine lv_if_eq (tgt := 155) hx hb dX12_readNext_135 (by decide) (fun c270 => ?_) (fun c270 => ?_)
                · have c270 := k_eq (a := (isF mfaultKind mtoken mat mfrom mtape 28).toInt) (b := 0) rfl (by decide) c270
                  exact jn6 mfaultKind mfaultPlace _ _ ls (by omega) (by omega)  (hP.sub [1, 2, 0] rfl) (hD.sub [1, 2, 0] (by decide) rfl) hS (lv_sub hl [0, 1] rfl)
                · have c270 := k_ne (a := (isF mfaultKind mtoken mat mfrom mtape 28).toInt) (b := 0) rfl (by decide) c270
                  refine lv_aload_n hx hb dX12_readNext_138 rfl (lv_at hl 1 rfl) ?_
                  refine g_get (C := RX12) (T := TX12) (N := 29) (ci := 12) (v := .ref a14) FC hKn hP i_X12 1 rfl rfl 14 (by decide) b_1132 rfl dX12_readNext_139 ?_
                  refine lv_bipush (v := 8) hx hb dX12_readNext_142 (by decide) ?_
                  refine va_iald hx hb hKn.1 hP 0 0 rfl rfl (by unfold vp_in; decide) dX12_readNext_144 ?_
                  have kc8 : (8 : Int32).toInt = 8 := by decide
                  refine lv_topi (fun z271 e_z271 => ?_)
                  have t_z271 : 0 ≤ z271.toInt ∧ z271.toInt ≤ 6 := by rw [e_z271]; exact wk_8 i_mfresh
                  have q_z271 : z271.toInt = (mfresh 8).toInt := by rw [e_z271]; rfl
                  refine lv_bipush (v := 6) hx hb dX12_readNext_145 (by decide) ?_
                  refine lv_icmp_ne (tgt := 155) hx hb dX12_readNext_147 (by decide) (fun c272 => ?_) (fun c272 => ?_)
                  · have c272 := k_ne (a := z271.toInt) (b := 6) rfl (by decide) c272
                    exact jn6 mfaultKind mfaultPlace _ _ ls (by omega) (by omega)  (hP.sub [1, 2, 0] rfl) (hD.sub [1, 2, 0] (by decide) rfl) hS (lv_sub hl [0, 1] rfl)
                  · have c272 := k_eq (a := z271.toInt) (b := 6) rfl (by decide) c272
                    refine lv_aload_n hx hb dX12_readNext_150 rfl (lv_at hl 1 rfl) ?_
                    refine lv_iconst (v := 3) hx hb dX12_readNext_151 (by decide) ?_
                    have kc3 : (3 : Int32).toInt = 3 := by decide
                    refine call_V (As := [.int 3]) (rest := []) (wr := [(a14, .inl (g.2 0, 225, .inl mfresh)), (a4, .inl (g.2 1, 900, .inl mtape))]) FC hKn hZ (k_X12_errs l g h0 a1 a2 a3 a4 a6 a14 a15 a19 a20 a23 a24 a25 a26 a27 a28 mthrown mtaped msize mat mfrom mtoken mvalue mfaultKind mfaultPlace mgoal mgoalDays mgoalHearer mleastOrder mwordsMany ((3 : Int32)) (by omega) (by omega) (by omega) (by omega) (by omega) (by omega) (by omega) (by omega) (by omega) (by omega)) m_yX12_errs b_1129 (ci := 12) rfl rfl rfl hP hD hS hA [1] [0, 2] rfl (by decide) rfl (by decide) (by decide) rfl hl.1 rfl (Nat.le_of_ble_eq_true rfl) dX12_readNext_152 ⟨(Nat.le_of_ble_eq_true rfl), (Nat.le_of_ble_eq_true rfl)⟩ ⟨(Nat.le_of_ble_eq_true rfl), (Nat.le_of_ble_eq_true rfl)⟩ (fun u273 H locs q274 hP hD hS => ?_)
                    have q274_0 : 1 ≤ (u273.1 1).toInt ∧ (u273.1 1).toInt ≤ 3 := q274
                    have hP : va_P g.1 vwCl [(a14, .inl (g.2 0, 225, .inl mfresh)), (a4, .inl (g.2 1, 900, .inl mtape)), (h0, .inr (12, [.int mthrown, .ref a1, .ref a2, .ref a3, .ref a4, .int mtaped, .ref a6, .int msize, .int mat, .int mfrom, .int mtoken, .int mvalue, .int (u273.1 1), .int (u273.1 2), .ref a14, .ref a15, .int mgoal, .int mgoalDays, .int mgoalHearer, .ref a19, .ref a20, .int mleastOrder, .int mwordsMany, .ref a23, .ref a24, .ref a25, .ref a26, .ref a27, .ref a28]))] H := hP
                    have hD : va_D A [(a14, .inl (g.2 0, 225, .inl mfresh)), (a4, .inl (g.2 1, 900, .inl mtape)), (h0, .inr (12, [.int mthrown, .ref a1, .ref a2, .ref a3, .ref a4, .int mtaped, .ref a6, .int msize, .int mat, .int mfrom, .int mtoken, .int mvalue, .int (u273.1 1), .int (u273.1 2), .ref a14, .ref a15, .int mgoal, .int mgoalDays, .int mgoalHearer, .ref a19, .ref a20, .int mleastOrder, .int mwordsMany, .ref a23, .ref a24, .ref a25, .ref a26, .ref a27, .ref a28]))] := hD
                    refine W.eq (g2 := F0 m 155 ls []) rfl ?_
                    exact jn6 (u273.1 1) (u273.1 2) _ _ ls (by omega) (by omega)  (hP.sub [2, 1, 0] rfl) (hD.sub [2, 1, 0] (by decide) rfl) hS (lv_sub hl [0, 1] rfl)
              · have c267 := k_ne (a := (isF mfaultKind mtoken mat mfrom mtape 27).toInt) (b := 0) rfl (by decide) c267
                refine lv_aload_n hx hb dX12_readNext_118 rfl (lv_at hl 1 rfl) ?_
                refine g_get (C := RX12) (T := TX12) (N := 29) (ci := 12) (v := .ref a14) FC hKn hP i_X12 1 rfl rfl 14 (by decide) b_1132 rfl dX12_readNext_119 ?_
                refine lv_bipush (v := 7) hx hb dX12_readNext_122 (by decide) ?_
                refine va_iald hx hb hKn.1 hP 0 0 rfl rfl (by unfold vp_in; decide) dX12_readNext_124 ?_
                have kc7 : (7 : Int32).toInt = 7 := by decide
                refine lv_topi (fun z275 e_z275 => ?_)
                have t_z275 : 0 ≤ z275.toInt ∧ z275.toInt ≤ 4 := by rw [e_z275]; exact wk_7 i_mfresh
                have q_z275 : z275.toInt = (mfresh 7).toInt := by rw [e_z275]; rfl
                refine lv_iconst (v := 4) hx hb dX12_readNext_125 (by decide) ?_
                refine lv_icmp_eq (tgt := 150) hx hb dX12_readNext_126 (by decide) (fun c276 => ?_) (fun c276 => ?_)
                · have c276 := k_eq (a := z275.toInt) (b := 4) rfl (by decide) c276
                  refine lv_aload_n hx hb dX12_readNext_150 rfl (lv_at hl 1 rfl) ?_
                  refine lv_iconst (v := 3) hx hb dX12_readNext_151 (by decide) ?_
                  have kc3 : (3 : Int32).toInt = 3 := by decide
                  refine call_V (As := [.int 3]) (rest := []) (wr := [(a14, .inl (g.2 0, 225, .inl mfresh)), (a4, .inl (g.2 1, 900, .inl mtape))]) FC hKn hZ (k_X12_errs l g h0 a1 a2 a3 a4 a6 a14 a15 a19 a20 a23 a24 a25 a26 a27 a28 mthrown mtaped msize mat mfrom mtoken mvalue mfaultKind mfaultPlace mgoal mgoalDays mgoalHearer mleastOrder mwordsMany ((3 : Int32)) (by omega) (by omega) (by omega) (by omega) (by omega) (by omega) (by omega) (by omega) (by omega) (by omega)) m_yX12_errs b_1129 (ci := 12) rfl rfl rfl hP hD hS hA [1] [0, 2] rfl (by decide) rfl (by decide) (by decide) rfl hl.1 rfl (Nat.le_of_ble_eq_true rfl) dX12_readNext_152 ⟨(Nat.le_of_ble_eq_true rfl), (Nat.le_of_ble_eq_true rfl)⟩ ⟨(Nat.le_of_ble_eq_true rfl), (Nat.le_of_ble_eq_true rfl)⟩ (fun u277 H locs q278 hP hD hS => ?_)
                  have q278_0 : 1 ≤ (u277.1 1).toInt ∧ (u277.1 1).toInt ≤ 3 := q278
                  have hP : va_P g.1 vwCl [(a14, .inl (g.2 0, 225, .inl mfresh)), (a4, .inl (g.2 1, 900, .inl mtape)), (h0, .inr (12, [.int mthrown, .ref a1, .ref a2, .ref a3, .ref a4, .int mtaped, .ref a6, .int msize, .int mat, .int mfrom, .int mtoken, .int mvalue, .int (u277.1 1), .int (u277.1 2), .ref a14, .ref a15, .int mgoal, .int mgoalDays, .int mgoalHearer, .ref a19, .ref a20, .int mleastOrder, .int mwordsMany, .ref a23, .ref a24, .ref a25, .ref a26, .ref a27, .ref a28]))] H := hP
                  have hD : va_D A [(a14, .inl (g.2 0, 225, .inl mfresh)), (a4, .inl (g.2 1, 900, .inl mtape)), (h0, .inr (12, [.int mthrown, .ref a1, .ref a2, .ref a3, .ref a4, .int mtaped, .ref a6, .int msize, .int mat, .int mfrom, .int mtoken, .int mvalue, .int (u277.1 1), .int (u277.1 2), .ref a14, .ref a15, .int mgoal, .int mgoalDays, .int mgoalHearer, .ref a19, .ref a20, .int mleastOrder, .int mwordsMany, .ref a23, .ref a24, .ref a25, .ref a26, .ref a27, .ref a28]))] := hD
                  refine W.eq (g2 := F0 m 155 ls []) rfl ?_
                  exact jn6 (u277.1 1) (u277.1 2) _ _ ls (by omega) (by omega)  (hP.sub [2, 1, 0] rfl) (hD.sub [2, 1, 0] (by decide) rfl) hS (lv_sub hl [0, 1] rfl)
                · have c276 := k_ne (a := z275.toInt) (b := 4) rfl (by decide) c276
                  refine lv_aload_n hx hb dX12_readNext_129 rfl (lv_at hl 1 rfl) ?_
                  refine va_ldcS hx hb hown (hZ.2.2 28 _ rfl).1 dX12_readNext_130 ?_
                  refine call_V (As := [.ref (sa g 28)]) (rest := []) (wr := [(a14, .inl (g.2 0, 225, .inl mfresh))]) FC hKn hZ (k_X12_is l g 28 h0 a1 a2 a3 a4 a6 a14 a15 a19 a20 a23 a24 a25 a26 a27 a28 mthrown mtaped msize mat mfrom mtoken mvalue mfaultKind mfaultPlace mgoal mgoalDays mgoalHearer mleastOrder mwordsMany mtape (by omega) (by omega) (by omega) (by omega) (by omega) (by omega) (by omega) (by omega) (by omega) (by omega)) m_yX12_is b_1126 (ci := 12) rfl rfl rfl hP hD hS hA [1, 2] [0] rfl (by decide) rfl (by decide) (by decide) rfl hl.1 rfl (Nat.le_of_ble_eq_true rfl) dX12_readNext_132 ⟨(Nat.le_of_ble_eq_true rfl), (Nat.le_of_ble_eq_true rfl)⟩ ⟨(Nat.le_of_ble_eq_true rfl), (Nat.le_of_ble_eq_true rfl)⟩ (fun u279 H locs q280 hP hD hS => ?_)
                  obtain ⟨q280_0, q280_1, q280_2⟩ := q280
                  have hP : va_P g.1 vwCl [(a14, .inl (g.2 0, 225, .inl mfresh)), (h0, .inr (12, [.int mthrown, .ref a1, .ref a2, .ref a3, .ref a4, .int mtaped, .ref a6, .int msize, .int mat, .int mfrom, .int mtoken, .int mvalue, .int mfaultKind, .int mfaultPlace, .ref a14, .ref a15, .int mgoal, .int mgoalDays, .int mgoalHearer, .ref a19, .ref a20, .int mleastOrder, .int mwordsMany, .ref a23, .ref a24, .ref a25, .ref a26, .ref a27, .ref a28])), (a4, .inl (g.2 1, 900, .inl mtape))] H := hP
                  have hD : va_D A [(a14, .inl (g.2 0, 225, .inl mfresh)), (h0, .inr (12, [.int mthrown, .ref a1, .ref a2, .ref a3, .ref a4, .int mtaped, .ref a6, .int msize, .int mat, .int mfrom, .int mtoken, .int mvalue, .int mfaultKind, .int mfaultPlace, .ref a14, .ref a15, .int mgoal, .int mgoalDays, .int mgoalHearer, .ref a19, .ref a20, .int mleastOrder, .int mwordsMany, .ref a23, .ref a24, .ref a25, .ref a26, .ref a27, .ref a28])), (a4, .inl (g.2 1, 900, .inl mtape))] := hD
                  refine W.eq (g2 := F0 m 135 ls [.int (u279.1 0)]) rfl ?_
                  rw [q280_1] at q280_0
                  rw [q280_1] at q280_2
                  refine tp_i (v := isF mfaultKind mtoken mat mfrom mtape 28) q280_1 ?_
                  refine lv_if_eq (tgt := 155) hx hb dX12_readNext_135 (by decide) (fun c281 => ?_) (fun c281 => ?_)
                  · have c281 := k_eq (a := (isF mfaultKind mtoken mat mfrom mtape 28).toInt) (b := 0) rfl (by decide) c281
                    exact jn6 mfaultKind mfaultPlace _ _ ls (by omega) (by omega)  (hP.sub [1, 2, 0] rfl) (hD.sub [1, 2, 0] (by decide) rfl) hS (lv_sub hl [0, 1] rfl)
                  · have c281 := k_ne (a := (isF mfaultKind mtoken mat mfrom mtape 28).toInt) (b := 0) rfl (by decide) c281
                    refine lv_aload_n hx hb dX12_readNext_138 rfl (lv_at hl 1 rfl) ?_
                    refine g_get (C := RX12) (T := TX12) (N := 29) (ci := 12) (v := .ref a14) FC hKn hP i_X12 1 rfl rfl 14 (by decide) b_1132 rfl dX12_readNext_139 ?_
                    refine lv_bipush (v := 8) hx hb dX12_readNext_142 (by decide) ?_
                    refine va_iald hx hb hKn.1 hP 0 0 rfl rfl (by unfold vp_in; decide) dX12_readNext_144 ?_
                    have kc8 : (8 : Int32).toInt = 8 := by decide
                    refine lv_topi (fun z282 e_z282 => ?_)
                    have t_z282 : 0 ≤ z282.toInt ∧ z282.toInt ≤ 6 := by rw [e_z282]; exact wk_8 i_mfresh
                    have q_z282 : z282.toInt = (mfresh 8).toInt := by rw [e_z282]; rfl
                    refine lv_bipush (v := 6) hx hb dX12_readNext_145 (by decide) ?_
                    refine lv_icmp_ne (tgt := 155) hx hb dX12_readNext_147 (by decide) (fun c283 => ?_) (fun c283 => ?_)
                    · have c283 := k_ne (a := z282.toInt) (b := 6) rfl (by decide) c283
                      exact jn6 mfaultKind mfaultPlace _ _ ls (by omega) (by omega)  (hP.sub [1, 2, 0] rfl) (hD.sub [1, 2, 0] (by decide) rfl) hS (lv_sub hl [0, 1] rfl)
                    · have c283 := k_eq (a := z282.toInt) (b := 6) rfl (by decide) c283
                      refine lv_aload_n hx hb dX12_readNext_150 rfl (lv_at hl 1 rfl) ?_
                      refine lv_iconst (v := 3) hx hb dX12_readNext_151 (by decide) ?_
                      have kc3 : (3 : Int32).toInt = 3 := by decide
                      refine call_V (As := [.int 3]) (rest := []) (wr := [(a14, .inl (g.2 0, 225, .inl mfresh)), (a4, .inl (g.2 1, 900, .inl mtape))]) FC hKn hZ (k_X12_errs l g h0 a1 a2 a3 a4 a6 a14 a15 a19 a20 a23 a24 a25 a26 a27 a28 mthrown mtaped msize mat mfrom mtoken mvalue mfaultKind mfaultPlace mgoal mgoalDays mgoalHearer mleastOrder mwordsMany ((3 : Int32)) (by omega) (by omega) (by omega) (by omega) (by omega) (by omega) (by omega) (by omega) (by omega) (by omega)) m_yX12_errs b_1129 (ci := 12) rfl rfl rfl hP hD hS hA [1] [0, 2] rfl (by decide) rfl (by decide) (by decide) rfl hl.1 rfl (Nat.le_of_ble_eq_true rfl) dX12_readNext_152 ⟨(Nat.le_of_ble_eq_true rfl), (Nat.le_of_ble_eq_true rfl)⟩ ⟨(Nat.le_of_ble_eq_true rfl), (Nat.le_of_ble_eq_true rfl)⟩ (fun u284 H locs q285 hP hD hS => ?_)
                      have q285_0 : 1 ≤ (u284.1 1).toInt ∧ (u284.1 1).toInt ≤ 3 := q285
                      have hP : va_P g.1 vwCl [(a14, .inl (g.2 0, 225, .inl mfresh)), (a4, .inl (g.2 1, 900, .inl mtape)), (h0, .inr (12, [.int mthrown, .ref a1, .ref a2, .ref a3, .ref a4, .int mtaped, .ref a6, .int msize, .int mat, .int mfrom, .int mtoken, .int mvalue, .int (u284.1 1), .int (u284.1 2), .ref a14, .ref a15, .int mgoal, .int mgoalDays, .int mgoalHearer, .ref a19, .ref a20, .int mleastOrder, .int mwordsMany, .ref a23, .ref a24, .ref a25, .ref a26, .ref a27, .ref a28]))] H := hP
                      have hD : va_D A [(a14, .inl (g.2 0, 225, .inl mfresh)), (a4, .inl (g.2 1, 900, .inl mtape)), (h0, .inr (12, [.int mthrown, .ref a1, .ref a2, .ref a3, .ref a4, .int mtaped, .ref a6, .int msize, .int mat, .int mfrom, .int mtoken, .int mvalue, .int (u284.1 1), .int (u284.1 2), .ref a14, .ref a15, .int mgoal, .int mgoalDays, .int mgoalHearer, .ref a19, .ref a20, .int mleastOrder, .int mwordsMany, .ref a23, .ref a24, .ref a25, .ref a26, .ref a27, .ref a28]))] := hD
                      refine W.eq (g2 := F0 m 155 ls []) rfl ?_
                      exact jn6 (u284.1 1) (u284.1 2) _ _ ls (by omega) (by omega)  (hP.sub [2, 1, 0] rfl) (hD.sub [2, 1, 0] (by decide) rfl) hS (lv_sub hl [0, 1] rfl)
    · have c180 := k_eq (a := x1.toInt) (b := 0) rfl (by decide) c180
      refine lv_aload_n hx hb dX12_readNext_64 rfl (lv_at hl 1 rfl) ?_
      refine lv_iconst (v := 1) hx hb dX12_readNext_65 (by decide) ?_
      have kc1 : (1 : Int32).toInt = 1 := by decide
      refine call_V (As := [.int 1]) (rest := []) (wr := [(a4, .inl (g.2 1, 900, .inl mtape)), (a14, .inl (g.2 0, 225, .inl mfresh))]) FC hKn hZ (k_X12_errs l g h0 a1 a2 a3 a4 a6 a14 a15 a19 a20 a23 a24 a25 a26 a27 a28 mthrown mtaped msize mat mfrom mtoken mvalue mfaultKind mfaultPlace mgoal mgoalDays mgoalHearer mleastOrder mwordsMany ((1 : Int32)) (by omega) (by omega) (by omega) (by omega) (by omega) (by omega) (by omega) (by omega) (by omega) (by omega)) m_yX12_errs b_1129 (ci := 12) rfl rfl rfl hP hD hS hA [0] [1, 2] rfl (by decide) rfl (by decide) (by decide) rfl hl.1 rfl (Nat.le_of_ble_eq_true rfl) dX12_readNext_66 ⟨(Nat.le_of_ble_eq_true rfl), (Nat.le_of_ble_eq_true rfl)⟩ ⟨(Nat.le_of_ble_eq_true rfl), (Nat.le_of_ble_eq_true rfl)⟩ (fun u286 H locs q287 hP hD hS => ?_)
      have q287_0 : 1 ≤ (u286.1 1).toInt ∧ (u286.1 1).toInt ≤ 3 := q287
      have hP : va_P g.1 vwCl [(a4, .inl (g.2 1, 900, .inl mtape)), (a14, .inl (g.2 0, 225, .inl mfresh)), (h0, .inr (12, [.int mthrown, .ref a1, .ref a2, .ref a3, .ref a4, .int mtaped, .ref a6, .int msize, .int mat, .int mfrom, .int mtoken, .int mvalue, .int (u286.1 1), .int (u286.1 2), .ref a14, .ref a15, .int mgoal, .int mgoalDays, .int mgoalHearer, .ref a19, .ref a20, .int mleastOrder, .int mwordsMany, .ref a23, .ref a24, .ref a25, .ref a26, .ref a27, .ref a28]))] H := hP
      have hD : va_D A [(a4, .inl (g.2 1, 900, .inl mtape)), (a14, .inl (g.2 0, 225, .inl mfresh)), (h0, .inr (12, [.int mthrown, .ref a1, .ref a2, .ref a3, .ref a4, .int mtaped, .ref a6, .int msize, .int mat, .int mfrom, .int mtoken, .int mvalue, .int (u286.1 1), .int (u286.1 2), .ref a14, .ref a15, .int mgoal, .int mgoalDays, .int mgoalHearer, .ref a19, .ref a20, .int mleastOrder, .int mwordsMany, .ref a23, .ref a24, .ref a25, .ref a26, .ref a27, .ref a28]))] := hD
      refine W.eq (g2 := F0 m 69 ls []) rfl ?_
      refine lv_aload_n hx hb dX12_readNext_69 rfl (lv_at hl 1 rfl) ?_
      refine va_ldcS hx hb hown (hZ.2.2 25 _ rfl).1 dX12_readNext_70 ?_
      refine call_V (As := [.ref (sa g 25)]) (rest := []) (wr := [(a4, .inl (g.2 1, 900, .inl mtape)), (a14, .inl (g.2 0, 225, .inl mfresh))]) FC hKn hZ (k_is_f l g 25 h0 a1 a2 a3 a4 a6 a14 a15 a19 a20 a23 a24 a25 a26 a27 a28 mthrown mtaped msize mat mfrom mtoken mvalue (u286.1 1) (u286.1 2) mgoal mgoalDays mgoalHearer mleastOrder mwordsMany (by omega) (by omega) (by omega) (by omega) (by omega) (by omega) (by omega) (by omega) (by omega) (by omega)) m_yX12_is b_1126 (ci := 12) rfl rfl rfl hP hD hS hA [2] [0, 1] rfl (by decide) rfl (by decide) (by decide) rfl hl.1 rfl (Nat.le_of_ble_eq_true rfl) dX12_readNext_72 ⟨(Nat.le_of_ble_eq_true rfl), (Nat.le_of_ble_eq_true rfl)⟩ ⟨(Nat.le_of_ble_eq_true rfl), (Nat.le_of_ble_eq_true rfl)⟩ (fun u288 H locs q289 hP hD hS => ?_)
      have q289_0 : 0 ≤ (u288.1 0).toInt ∧ (u288.1 0).toInt ≤ 0 := q289
      have hP : va_P g.1 vwCl [(a4, .inl (g.2 1, 900, .inl mtape)), (a14, .inl (g.2 0, 225, .inl mfresh)), (h0, .inr (12, [.int mthrown, .ref a1, .ref a2, .ref a3, .ref a4, .int mtaped, .ref a6, .int msize, .int mat, .int mfrom, .int mtoken, .int mvalue, .int (u286.1 1), .int (u286.1 2), .ref a14, .ref a15, .int mgoal, .int mgoalDays, .int mgoalHearer, .ref a19, .ref a20, .int mleastOrder, .int mwordsMany, .ref a23, .ref a24, .ref a25, .ref a26, .ref a27, .ref a28]))] H := hP
      have hD : va_D A [(a4, .inl (g.2 1, 900, .inl mtape)), (a14, .inl (g.2 0, 225, .inl mfresh)), (h0, .inr (12, [.int mthrown, .ref a1, .ref a2, .ref a3, .ref a4, .int mtaped, .ref a6, .int msize, .int mat, .int mfrom, .int mtoken, .int mvalue, .int (u286.1 1), .int (u286.1 2), .ref a14, .ref a15, .int mgoal, .int mgoalDays, .int mgoalHearer, .ref a19, .ref a20, .int mleastOrder, .int mwordsMany, .ref a23, .ref a24, .ref a25, .ref a26, .ref a27, .ref a28]))] := hD
      refine W.eq (g2 := F0 m 75 ls [.int (u288.1 0)]) rfl ?_
      refine tp_i (v := 0) (Int32.toInt_inj.mp (show (u288.1 0).toInt = (0 : Int32).toInt by rw [show (0 : Int32).toInt = 0 by decide]; omega)) ?_
      refine lv_if_eq (tgt := 88) hx hb dX12_readNext_75 (by decide) (fun _ => ?_) (fun h => absurd h (by decide))
      refine lv_aload_n hx hb dX12_readNext_88 rfl (lv_at hl 1 rfl) ?_
      refine va_ldcS hx hb hown (hZ.2.2 26 _ rfl).1 dX12_readNext_89 ?_
      refine call_V (As := [.ref (sa g 26)]) (rest := []) (wr := [(a4, .inl (g.2 1, 900, .inl mtape)), (a14, .inl (g.2 0, 225, .inl mfresh))]) FC hKn hZ (k_is_f l g 26 h0 a1 a2 a3 a4 a6 a14 a15 a19 a20 a23 a24 a25 a26 a27 a28 mthrown mtaped msize mat mfrom mtoken mvalue (u286.1 1) (u286.1 2) mgoal mgoalDays mgoalHearer mleastOrder mwordsMany (by omega) (by omega) (by omega) (by omega) (by omega) (by omega) (by omega) (by omega) (by omega) (by omega)) m_yX12_is b_1126 (ci := 12) rfl rfl rfl hP hD hS hA [2] [0, 1] rfl (by decide) rfl (by decide) (by decide) rfl hl.1 rfl (Nat.le_of_ble_eq_true rfl) dX12_readNext_91 ⟨(Nat.le_of_ble_eq_true rfl), (Nat.le_of_ble_eq_true rfl)⟩ ⟨(Nat.le_of_ble_eq_true rfl), (Nat.le_of_ble_eq_true rfl)⟩ (fun u290 H locs q291 hP hD hS => ?_)
      have q291_0 : 0 ≤ (u290.1 0).toInt ∧ (u290.1 0).toInt ≤ 0 := q291
      have hP : va_P g.1 vwCl [(a4, .inl (g.2 1, 900, .inl mtape)), (a14, .inl (g.2 0, 225, .inl mfresh)), (h0, .inr (12, [.int mthrown, .ref a1, .ref a2, .ref a3, .ref a4, .int mtaped, .ref a6, .int msize, .int mat, .int mfrom, .int mtoken, .int mvalue, .int (u286.1 1), .int (u286.1 2), .ref a14, .ref a15, .int mgoal, .int mgoalDays, .int mgoalHearer, .ref a19, .ref a20, .int mleastOrder, .int mwordsMany, .ref a23, .ref a24, .ref a25, .ref a26, .ref a27, .ref a28]))] H := hP
      have hD : va_D A [(a4, .inl (g.2 1, 900, .inl mtape)), (a14, .inl (g.2 0, 225, .inl mfresh)), (h0, .inr (12, [.int mthrown, .ref a1, .ref a2, .ref a3, .ref a4, .int mtaped, .ref a6, .int msize, .int mat, .int mfrom, .int mtoken, .int mvalue, .int (u286.1 1), .int (u286.1 2), .ref a14, .ref a15, .int mgoal, .int mgoalDays, .int mgoalHearer, .ref a19, .ref a20, .int mleastOrder, .int mwordsMany, .ref a23, .ref a24, .ref a25, .ref a26, .ref a27, .ref a28]))] := hD
      refine W.eq (g2 := F0 m 94 ls [.int (u290.1 0)]) rfl ?_
      refine tp_i (v := 0) (Int32.toInt_inj.mp (show (u290.1 0).toInt = (0 : Int32).toInt by rw [show (0 : Int32).toInt = 0 by decide]; omega)) ?_
      refine lv_if_eq (tgt := 109) hx hb dX12_readNext_94 (by decide) (fun _ => ?_) (fun h => absurd h (by decide))
      refine lv_aload_n hx hb dX12_readNext_109 rfl (lv_at hl 1 rfl) ?_
      refine va_ldcS hx hb hown (hZ.2.2 27 _ rfl).1 dX12_readNext_110 ?_
      refine call_V (As := [.ref (sa g 27)]) (rest := []) (wr := [(a4, .inl (g.2 1, 900, .inl mtape)), (a14, .inl (g.2 0, 225, .inl mfresh))]) FC hKn hZ (k_is_f l g 27 h0 a1 a2 a3 a4 a6 a14 a15 a19 a20 a23 a24 a25 a26 a27 a28 mthrown mtaped msize mat mfrom mtoken mvalue (u286.1 1) (u286.1 2) mgoal mgoalDays mgoalHearer mleastOrder mwordsMany (by omega) (by omega) (by omega) (by omega) (by omega) (by omega) (by omega) (by omega) (by omega) (by omega)) m_yX12_is b_1126 (ci := 12) rfl rfl rfl hP hD hS hA [2] [0, 1] rfl (by decide) rfl (by decide) (by decide) rfl hl.1 rfl (Nat.le_of_ble_eq_true rfl) dX12_readNext_112 ⟨(Nat.le_of_ble_eq_true rfl), (Nat.le_of_ble_eq_true rfl)⟩ ⟨(Nat.le_of_ble_eq_true rfl), (Nat.le_of_ble_eq_true rfl)⟩ (fun u292 H locs q293 hP hD hS => ?_)
      have q293_0 : 0 ≤ (u292.1 0).toInt ∧ (u292.1 0).toInt ≤ 0 := q293
      have hP : va_P g.1 vwCl [(a4, .inl (g.2 1, 900, .inl mtape)), (a14, .inl (g.2 0, 225, .inl mfresh)), (h0, .inr (12, [.int mthrown, .ref a1, .ref a2, .ref a3, .ref a4, .int mtaped, .ref a6, .int msize, .int mat, .int mfrom, .int mtoken, .int mvalue, .int (u286.1 1), .int (u286.1 2), .ref a14, .ref a15, .int mgoal, .int mgoalDays, .int mgoalHearer, .ref a19, .ref a20, .int mleastOrder, .int mwordsMany, .ref a23, .ref a24, .ref a25, .ref a26, .ref a27, .ref a28]))] H := hP
      have hD : va_D A [(a4, .inl (g.2 1, 900, .inl mtape)), (a14, .inl (g.2 0, 225, .inl mfresh)), (h0, .inr (12, [.int mthrown, .ref a1, .ref a2, .ref a3, .ref a4, .int mtaped, .ref a6, .int msize, .int mat, .int mfrom, .int mtoken, .int mvalue, .int (u286.1 1), .int (u286.1 2), .ref a14, .ref a15, .int mgoal, .int mgoalDays, .int mgoalHearer, .ref a19, .ref a20, .int mleastOrder, .int mwordsMany, .ref a23, .ref a24, .ref a25, .ref a26, .ref a27, .ref a28]))] := hD
      refine W.eq (g2 := F0 m 115 ls [.int (u292.1 0)]) rfl ?_
      refine tp_i (v := 0) (Int32.toInt_inj.mp (show (u292.1 0).toInt = (0 : Int32).toInt by rw [show (0 : Int32).toInt = 0 by decide]; omega)) ?_
      refine lv_if_eq (tgt := 129) hx hb dX12_readNext_115 (by decide) (fun _ => ?_) (fun h => absurd h (by decide))
      refine lv_aload_n hx hb dX12_readNext_129 rfl (lv_at hl 1 rfl) ?_
      refine va_ldcS hx hb hown (hZ.2.2 28 _ rfl).1 dX12_readNext_130 ?_
      refine call_V (As := [.ref (sa g 28)]) (rest := []) (wr := [(a4, .inl (g.2 1, 900, .inl mtape)), (a14, .inl (g.2 0, 225, .inl mfresh))]) FC hKn hZ (k_is_f l g 28 h0 a1 a2 a3 a4 a6 a14 a15 a19 a20 a23 a24 a25 a26 a27 a28 mthrown mtaped msize mat mfrom mtoken mvalue (u286.1 1) (u286.1 2) mgoal mgoalDays mgoalHearer mleastOrder mwordsMany (by omega) (by omega) (by omega) (by omega) (by omega) (by omega) (by omega) (by omega) (by omega) (by omega)) m_yX12_is b_1126 (ci := 12) rfl rfl rfl hP hD hS hA [2] [0, 1] rfl (by decide) rfl (by decide) (by decide) rfl hl.1 rfl (Nat.le_of_ble_eq_true rfl) dX12_readNext_132 ⟨(Nat.le_of_ble_eq_true rfl), (Nat.le_of_ble_eq_true rfl)⟩ ⟨(Nat.le_of_ble_eq_true rfl), (Nat.le_of_ble_eq_true rfl)⟩ (fun u294 H locs q295 hP hD hS => ?_)
      have q295_0 : 0 ≤ (u294.1 0).toInt ∧ (u294.1 0).toInt ≤ 0 := q295
      have hP : va_P g.1 vwCl [(a4, .inl (g.2 1, 900, .inl mtape)), (a14, .inl (g.2 0, 225, .inl mfresh)), (h0, .inr (12, [.int mthrown, .ref a1, .ref a2, .ref a3, .ref a4, .int mtaped, .ref a6, .int msize, .int mat, .int mfrom, .int mtoken, .int mvalue, .int (u286.1 1), .int (u286.1 2), .ref a14, .ref a15, .int mgoal, .int mgoalDays, .int mgoalHearer, .ref a19, .ref a20, .int mleastOrder, .int mwordsMany, .ref a23, .ref a24, .ref a25, .ref a26, .ref a27, .ref a28]))] H := hP
      have hD : va_D A [(a4, .inl (g.2 1, 900, .inl mtape)), (a14, .inl (g.2 0, 225, .inl mfresh)), (h0, .inr (12, [.int mthrown, .ref a1, .ref a2, .ref a3, .ref a4, .int mtaped, .ref a6, .int msize, .int mat, .int mfrom, .int mtoken, .int mvalue, .int (u286.1 1), .int (u286.1 2), .ref a14, .ref a15, .int mgoal, .int mgoalDays, .int mgoalHearer, .ref a19, .ref a20, .int mleastOrder, .int mwordsMany, .ref a23, .ref a24, .ref a25, .ref a26, .ref a27, .ref a28]))] := hD
      refine W.eq (g2 := F0 m 135 ls [.int (u294.1 0)]) rfl ?_
      refine tp_i (v := 0) (Int32.toInt_inj.mp (show (u294.1 0).toInt = (0 : Int32).toInt by rw [show (0 : Int32).toInt = 0 by decide]; omega)) ?_
      refine lv_if_eq (tgt := 155) hx hb dX12_readNext_135 (by decide) (fun _ => ?_) (fun h => absurd h (by decide))
      exact jn6 (u286.1 1) (u286.1 2) _ _ ls (by omega) (by omega)  (hP.sub [2, 0, 1] rfl) (hD.sub [2, 0, 1] (by decide) rfl) hS (lv_sub hl [0, 1] rfl)
  refine lv_aload_n hx hb dX12_readNext_0 rfl (lv_at hl 0 rfl) ?_
  refine va_ldcS hx hb hown (hZ.2.2 24 _ rfl).1 dX12_readNext_1 ?_
  refine call_V (As := [.ref (sa g 24)]) (rest := []) (wr := [(a14, .inl (g.2 0, 225, .inl mfresh))]) FC hKn hZ (k_X12_is l g 24 h0 a1 a2 a3 a4 a6 a14 a15 a19 a20 a23 a24 a25 a26 a27 a28 mthrown mtaped msize mat mfrom mtoken mvalue mfaultKind mfaultPlace mgoal mgoalDays mgoalHearer mleastOrder mwordsMany mtape (by omega) (by omega) (by omega) (by omega) (by omega) (by omega) (by omega) (by omega) (by omega) (by omega)) m_yX12_is b_1126 (ci := 12) rfl rfl rfl hP hD hS hA [0, 1] [2] rfl (by decide) rfl (by decide) (by decide) rfl hl.1 rfl (Nat.le_of_ble_eq_true rfl) dX12_readNext_3 ⟨(Nat.le_of_ble_eq_true rfl), (Nat.le_of_ble_eq_true rfl)⟩ ⟨(Nat.le_of_ble_eq_true rfl), (Nat.le_of_ble_eq_true rfl)⟩ (fun u296 H locs q297 hP hD hS => ?_)
  obtain ⟨q297_0, q297_1, q297_2⟩ := q297
  have hP : va_P g.1 vwCl [(a14, .inl (g.2 0, 225, .inl mfresh)), (h0, .inr (12, [.int mthrown, .ref a1, .ref a2, .ref a3, .ref a4, .int mtaped, .ref a6, .int msize, .int mat, .int mfrom, .int mtoken, .int mvalue, .int mfaultKind, .int mfaultPlace, .ref a14, .ref a15, .int mgoal, .int mgoalDays, .int mgoalHearer, .ref a19, .ref a20, .int mleastOrder, .int mwordsMany, .ref a23, .ref a24, .ref a25, .ref a26, .ref a27, .ref a28])), (a4, .inl (g.2 1, 900, .inl mtape))] H := hP
  have hD : va_D A [(a14, .inl (g.2 0, 225, .inl mfresh)), (h0, .inr (12, [.int mthrown, .ref a1, .ref a2, .ref a3, .ref a4, .int mtaped, .ref a6, .int msize, .int mat, .int mfrom, .int mtoken, .int mvalue, .int mfaultKind, .int mfaultPlace, .ref a14, .ref a15, .int mgoal, .int mgoalDays, .int mgoalHearer, .ref a19, .ref a20, .int mleastOrder, .int mwordsMany, .ref a23, .ref a24, .ref a25, .ref a26, .ref a27, .ref a28])), (a4, .inl (g.2 1, 900, .inl mtape))] := hD
  refine W.eq (g2 := F0 m 6 ls [.int (u296.1 0)]) rfl ?_
  rw [q297_1] at q297_0
  rw [q297_1] at q297_2
  refine tp_i (v := isF mfaultKind mtoken mat mfrom mtape 24) q297_1 ?_
  refine lv_if_ne (tgt := 54) hx hb dX12_readNext_6 (by decide) (fun c298 => ?_) (fun c298 => ?_)
  · have c298 := k_ne (a := (isF mfaultKind mtoken mat mfrom mtape 24).toInt) (b := 0) rfl (by decide) c298
    refine lv_iconst (v := 1) hx hb dX12_readNext_54 (by decide) ?_
    refine lv_goto (tgt := 59) hx hb dX12_readNext_55 (by decide) ?_
    refine lv_istore_n (lv' := [(1, .int 1), (0, .ref h0)]) hx hb dX12_readNext_59 rfl hl (by decide) rfl (fun ls hl => ?_)
    have kc1 : (1 : Int32).toInt = 1 := by decide
    exact jn2 (1 : Int32) _ _ ls (by decide)  (hP.sub [1, 2, 0] rfl) (hD.sub [1, 2, 0] (by decide) rfl) hS (lv_sub hl [0, 1] rfl)
  · have c298 := k_eq (a := (isF mfaultKind mtoken mat mfrom mtape 24).toInt) (b := 0) rfl (by decide) c298
    refine lv_aload_n hx hb dX12_readNext_9 rfl (lv_at hl 0 rfl) ?_
    refine va_ldcS hx hb hown (hZ.2.2 25 _ rfl).1 dX12_readNext_10 ?_
    refine call_V (As := [.ref (sa g 25)]) (rest := []) (wr := [(a14, .inl (g.2 0, 225, .inl mfresh))]) FC hKn hZ (k_X12_is l g 25 h0 a1 a2 a3 a4 a6 a14 a15 a19 a20 a23 a24 a25 a26 a27 a28 mthrown mtaped msize mat mfrom mtoken mvalue mfaultKind mfaultPlace mgoal mgoalDays mgoalHearer mleastOrder mwordsMany mtape (by omega) (by omega) (by omega) (by omega) (by omega) (by omega) (by omega) (by omega) (by omega) (by omega)) m_yX12_is b_1126 (ci := 12) rfl rfl rfl hP hD hS hA [1, 2] [0] rfl (by decide) rfl (by decide) (by decide) rfl hl.1 rfl (Nat.le_of_ble_eq_true rfl) dX12_readNext_12 ⟨(Nat.le_of_ble_eq_true rfl), (Nat.le_of_ble_eq_true rfl)⟩ ⟨(Nat.le_of_ble_eq_true rfl), (Nat.le_of_ble_eq_true rfl)⟩ (fun u299 H locs q300 hP hD hS => ?_)
    obtain ⟨q300_0, q300_1, q300_2⟩ := q300
    have hP : va_P g.1 vwCl [(a14, .inl (g.2 0, 225, .inl mfresh)), (h0, .inr (12, [.int mthrown, .ref a1, .ref a2, .ref a3, .ref a4, .int mtaped, .ref a6, .int msize, .int mat, .int mfrom, .int mtoken, .int mvalue, .int mfaultKind, .int mfaultPlace, .ref a14, .ref a15, .int mgoal, .int mgoalDays, .int mgoalHearer, .ref a19, .ref a20, .int mleastOrder, .int mwordsMany, .ref a23, .ref a24, .ref a25, .ref a26, .ref a27, .ref a28])), (a4, .inl (g.2 1, 900, .inl mtape))] H := hP
    have hD : va_D A [(a14, .inl (g.2 0, 225, .inl mfresh)), (h0, .inr (12, [.int mthrown, .ref a1, .ref a2, .ref a3, .ref a4, .int mtaped, .ref a6, .int msize, .int mat, .int mfrom, .int mtoken, .int mvalue, .int mfaultKind, .int mfaultPlace, .ref a14, .ref a15, .int mgoal, .int mgoalDays, .int mgoalHearer, .ref a19, .ref a20, .int mleastOrder, .int mwordsMany, .ref a23, .ref a24, .ref a25, .ref a26, .ref a27, .ref a28])), (a4, .inl (g.2 1, 900, .inl mtape))] := hD
    refine W.eq (g2 := F0 m 15 ls [.int (u299.1 0)]) rfl ?_
    rw [q300_1] at q300_0
    rw [q300_1] at q300_2
    refine tp_i (v := isF mfaultKind mtoken mat mfrom mtape 25) q300_1 ?_
    refine lv_if_ne (tgt := 54) hx hb dX12_readNext_15 (by decide) (fun c301 => ?_) (fun c301 => ?_)
    · have c301 := k_ne (a := (isF mfaultKind mtoken mat mfrom mtape 25).toInt) (b := 0) rfl (by decide) c301
      refine lv_iconst (v := 1) hx hb dX12_readNext_54 (by decide) ?_
      refine lv_goto (tgt := 59) hx hb dX12_readNext_55 (by decide) ?_
      refine lv_istore_n (lv' := [(1, .int 1), (0, .ref h0)]) hx hb dX12_readNext_59 rfl hl (by decide) rfl (fun ls hl => ?_)
      have kc1 : (1 : Int32).toInt = 1 := by decide
      exact jn2 (1 : Int32) _ _ ls (by decide)  (hP.sub [1, 2, 0] rfl) (hD.sub [1, 2, 0] (by decide) rfl) hS (lv_sub hl [0, 1] rfl)
    · have c301 := k_eq (a := (isF mfaultKind mtoken mat mfrom mtape 25).toInt) (b := 0) rfl (by decide) c301
      refine lv_aload_n hx hb dX12_readNext_18 rfl (lv_at hl 0 rfl) ?_
      refine va_ldcS hx hb hown (hZ.2.2 26 _ rfl).1 dX12_readNext_19 ?_
      refine call_V (As := [.ref (sa g 26)]) (rest := []) (wr := [(a14, .inl (g.2 0, 225, .inl mfresh))]) FC hKn hZ (k_X12_is l g 26 h0 a1 a2 a3 a4 a6 a14 a15 a19 a20 a23 a24 a25 a26 a27 a28 mthrown mtaped msize mat mfrom mtoken mvalue mfaultKind mfaultPlace mgoal mgoalDays mgoalHearer mleastOrder mwordsMany mtape (by omega) (by omega) (by omega) (by omega) (by omega) (by omega) (by omega) (by omega) (by omega) (by omega)) m_yX12_is b_1126 (ci := 12) rfl rfl rfl hP hD hS hA [1, 2] [0] rfl (by decide) rfl (by decide) (by decide) rfl hl.1 rfl (Nat.le_of_ble_eq_true rfl) dX12_readNext_21 ⟨(Nat.le_of_ble_eq_true rfl), (Nat.le_of_ble_eq_true rfl)⟩ ⟨(Nat.le_of_ble_eq_true rfl), (Nat.le_of_ble_eq_true rfl)⟩ (fun u302 H locs q303 hP hD hS => ?_)
      obtain ⟨q303_0, q303_1, q303_2⟩ := q303
      have hP : va_P g.1 vwCl [(a14, .inl (g.2 0, 225, .inl mfresh)), (h0, .inr (12, [.int mthrown, .ref a1, .ref a2, .ref a3, .ref a4, .int mtaped, .ref a6, .int msize, .int mat, .int mfrom, .int mtoken, .int mvalue, .int mfaultKind, .int mfaultPlace, .ref a14, .ref a15, .int mgoal, .int mgoalDays, .int mgoalHearer, .ref a19, .ref a20, .int mleastOrder, .int mwordsMany, .ref a23, .ref a24, .ref a25, .ref a26, .ref a27, .ref a28])), (a4, .inl (g.2 1, 900, .inl mtape))] H := hP
      have hD : va_D A [(a14, .inl (g.2 0, 225, .inl mfresh)), (h0, .inr (12, [.int mthrown, .ref a1, .ref a2, .ref a3, .ref a4, .int mtaped, .ref a6, .int msize, .int mat, .int mfrom, .int mtoken, .int mvalue, .int mfaultKind, .int mfaultPlace, .ref a14, .ref a15, .int mgoal, .int mgoalDays, .int mgoalHearer, .ref a19, .ref a20, .int mleastOrder, .int mwordsMany, .ref a23, .ref a24, .ref a25, .ref a26, .ref a27, .ref a28])), (a4, .inl (g.2 1, 900, .inl mtape))] := hD
      refine W.eq (g2 := F0 m 24 ls [.int (u302.1 0)]) rfl ?_
      rw [q303_1] at q303_0
      rw [q303_1] at q303_2
      refine tp_i (v := isF mfaultKind mtoken mat mfrom mtape 26) q303_1 ?_
      refine lv_if_ne (tgt := 54) hx hb dX12_readNext_24 (by decide) (fun c304 => ?_) (fun c304 => ?_)
      · have c304 := k_ne (a := (isF mfaultKind mtoken mat mfrom mtape 26).toInt) (b := 0) rfl (by decide) c304
        refine lv_iconst (v := 1) hx hb dX12_readNext_54 (by decide) ?_
        refine lv_goto (tgt := 59) hx hb dX12_readNext_55 (by decide) ?_
        refine lv_istore_n (lv' := [(1, .int 1), (0, .ref h0)]) hx hb dX12_readNext_59 rfl hl (by decide) rfl (fun ls hl => ?_)
        have kc1 : (1 : Int32).toInt = 1 := by decide
        exact jn2 (1 : Int32) _ _ ls (by decide)  (hP.sub [1, 2, 0] rfl) (hD.sub [1, 2, 0] (by decide) rfl) hS (lv_sub hl [0, 1] rfl)
      · have c304 := k_eq (a := (isF mfaultKind mtoken mat mfrom mtape 26).toInt) (b := 0) rfl (by decide) c304
        refine lv_aload_n hx hb dX12_readNext_27 rfl (lv_at hl 0 rfl) ?_
        refine va_ldcS hx hb hown (hZ.2.2 27 _ rfl).1 dX12_readNext_28 ?_
        refine call_V (As := [.ref (sa g 27)]) (rest := []) (wr := [(a14, .inl (g.2 0, 225, .inl mfresh))]) FC hKn hZ (k_X12_is l g 27 h0 a1 a2 a3 a4 a6 a14 a15 a19 a20 a23 a24 a25 a26 a27 a28 mthrown mtaped msize mat mfrom mtoken mvalue mfaultKind mfaultPlace mgoal mgoalDays mgoalHearer mleastOrder mwordsMany mtape (by omega) (by omega) (by omega) (by omega) (by omega) (by omega) (by omega) (by omega) (by omega) (by omega)) m_yX12_is b_1126 (ci := 12) rfl rfl rfl hP hD hS hA [1, 2] [0] rfl (by decide) rfl (by decide) (by decide) rfl hl.1 rfl (Nat.le_of_ble_eq_true rfl) dX12_readNext_30 ⟨(Nat.le_of_ble_eq_true rfl), (Nat.le_of_ble_eq_true rfl)⟩ ⟨(Nat.le_of_ble_eq_true rfl), (Nat.le_of_ble_eq_true rfl)⟩ (fun u305 H locs q306 hP hD hS => ?_)
        obtain ⟨q306_0, q306_1, q306_2⟩ := q306
        have hP : va_P g.1 vwCl [(a14, .inl (g.2 0, 225, .inl mfresh)), (h0, .inr (12, [.int mthrown, .ref a1, .ref a2, .ref a3, .ref a4, .int mtaped, .ref a6, .int msize, .int mat, .int mfrom, .int mtoken, .int mvalue, .int mfaultKind, .int mfaultPlace, .ref a14, .ref a15, .int mgoal, .int mgoalDays, .int mgoalHearer, .ref a19, .ref a20, .int mleastOrder, .int mwordsMany, .ref a23, .ref a24, .ref a25, .ref a26, .ref a27, .ref a28])), (a4, .inl (g.2 1, 900, .inl mtape))] H := hP
        have hD : va_D A [(a14, .inl (g.2 0, 225, .inl mfresh)), (h0, .inr (12, [.int mthrown, .ref a1, .ref a2, .ref a3, .ref a4, .int mtaped, .ref a6, .int msize, .int mat, .int mfrom, .int mtoken, .int mvalue, .int mfaultKind, .int mfaultPlace, .ref a14, .ref a15, .int mgoal, .int mgoalDays, .int mgoalHearer, .ref a19, .ref a20, .int mleastOrder, .int mwordsMany, .ref a23, .ref a24, .ref a25, .ref a26, .ref a27, .ref a28])), (a4, .inl (g.2 1, 900, .inl mtape))] := hD
        refine W.eq (g2 := F0 m 33 ls [.int (u305.1 0)]) rfl ?_
        rw [q306_1] at q306_0
        rw [q306_1] at q306_2
        refine tp_i (v := isF mfaultKind mtoken mat mfrom mtape 27) q306_1 ?_
        refine lv_if_ne (tgt := 54) hx hb dX12_readNext_33 (by decide) (fun c307 => ?_) (fun c307 => ?_)
        · have c307 := k_ne (a := (isF mfaultKind mtoken mat mfrom mtape 27).toInt) (b := 0) rfl (by decide) c307
          refine lv_iconst (v := 1) hx hb dX12_readNext_54 (by decide) ?_
          refine lv_goto (tgt := 59) hx hb dX12_readNext_55 (by decide) ?_
          refine lv_istore_n (lv' := [(1, .int 1), (0, .ref h0)]) hx hb dX12_readNext_59 rfl hl (by decide) rfl (fun ls hl => ?_)
          have kc1 : (1 : Int32).toInt = 1 := by decide
          exact jn2 (1 : Int32) _ _ ls (by decide)  (hP.sub [1, 2, 0] rfl) (hD.sub [1, 2, 0] (by decide) rfl) hS (lv_sub hl [0, 1] rfl)
        · have c307 := k_eq (a := (isF mfaultKind mtoken mat mfrom mtape 27).toInt) (b := 0) rfl (by decide) c307
          refine lv_aload_n hx hb dX12_readNext_36 rfl (lv_at hl 0 rfl) ?_
          refine va_ldcS hx hb hown (hZ.2.2 28 _ rfl).1 dX12_readNext_37 ?_
          refine call_V (As := [.ref (sa g 28)]) (rest := []) (wr := [(a14, .inl (g.2 0, 225, .inl mfresh))]) FC hKn hZ (k_X12_is l g 28 h0 a1 a2 a3 a4 a6 a14 a15 a19 a20 a23 a24 a25 a26 a27 a28 mthrown mtaped msize mat mfrom mtoken mvalue mfaultKind mfaultPlace mgoal mgoalDays mgoalHearer mleastOrder mwordsMany mtape (by omega) (by omega) (by omega) (by omega) (by omega) (by omega) (by omega) (by omega) (by omega) (by omega)) m_yX12_is b_1126 (ci := 12) rfl rfl rfl hP hD hS hA [1, 2] [0] rfl (by decide) rfl (by decide) (by decide) rfl hl.1 rfl (Nat.le_of_ble_eq_true rfl) dX12_readNext_39 ⟨(Nat.le_of_ble_eq_true rfl), (Nat.le_of_ble_eq_true rfl)⟩ ⟨(Nat.le_of_ble_eq_true rfl), (Nat.le_of_ble_eq_true rfl)⟩ (fun u308 H locs q309 hP hD hS => ?_)
          obtain ⟨q309_0, q309_1, q309_2⟩ := q309
          have hP : va_P g.1 vwCl [(a14, .inl (g.2 0, 225, .inl mfresh)), (h0, .inr (12, [.int mthrown, .ref a1, .ref a2, .ref a3, .ref a4, .int mtaped, .ref a6, .int msize, .int mat, .int mfrom, .int mtoken, .int mvalue, .int mfaultKind, .int mfaultPlace, .ref a14, .ref a15, .int mgoal, .int mgoalDays, .int mgoalHearer, .ref a19, .ref a20, .int mleastOrder, .int mwordsMany, .ref a23, .ref a24, .ref a25, .ref a26, .ref a27, .ref a28])), (a4, .inl (g.2 1, 900, .inl mtape))] H := hP
          have hD : va_D A [(a14, .inl (g.2 0, 225, .inl mfresh)), (h0, .inr (12, [.int mthrown, .ref a1, .ref a2, .ref a3, .ref a4, .int mtaped, .ref a6, .int msize, .int mat, .int mfrom, .int mtoken, .int mvalue, .int mfaultKind, .int mfaultPlace, .ref a14, .ref a15, .int mgoal, .int mgoalDays, .int mgoalHearer, .ref a19, .ref a20, .int mleastOrder, .int mwordsMany, .ref a23, .ref a24, .ref a25, .ref a26, .ref a27, .ref a28])), (a4, .inl (g.2 1, 900, .inl mtape))] := hD
          refine W.eq (g2 := F0 m 42 ls [.int (u308.1 0)]) rfl ?_
          rw [q309_1] at q309_0
          rw [q309_1] at q309_2
          refine tp_i (v := isF mfaultKind mtoken mat mfrom mtape 28) q309_1 ?_
          refine lv_if_ne (tgt := 54) hx hb dX12_readNext_42 (by decide) (fun c310 => ?_) (fun c310 => ?_)
          · have c310 := k_ne (a := (isF mfaultKind mtoken mat mfrom mtape 28).toInt) (b := 0) rfl (by decide) c310
            refine lv_iconst (v := 1) hx hb dX12_readNext_54 (by decide) ?_
            refine lv_goto (tgt := 59) hx hb dX12_readNext_55 (by decide) ?_
            refine lv_istore_n (lv' := [(1, .int 1), (0, .ref h0)]) hx hb dX12_readNext_59 rfl hl (by decide) rfl (fun ls hl => ?_)
            have kc1 : (1 : Int32).toInt = 1 := by decide
            exact jn2 (1 : Int32) _ _ ls (by decide)  (hP.sub [1, 2, 0] rfl) (hD.sub [1, 2, 0] (by decide) rfl) hS (lv_sub hl [0, 1] rfl)
          · have c310 := k_eq (a := (isF mfaultKind mtoken mat mfrom mtape 28).toInt) (b := 0) rfl (by decide) c310
            refine lv_aload_n hx hb dX12_readNext_45 rfl (lv_at hl 0 rfl) ?_
            refine va_ldcS hx hb hown (hZ.2.2 29 _ rfl).1 dX12_readNext_46 ?_
            refine call_V (As := [.ref (sa g 29)]) (rest := []) (wr := [(a14, .inl (g.2 0, 225, .inl mfresh))]) FC hKn hZ (k_X12_is l g 29 h0 a1 a2 a3 a4 a6 a14 a15 a19 a20 a23 a24 a25 a26 a27 a28 mthrown mtaped msize mat mfrom mtoken mvalue mfaultKind mfaultPlace mgoal mgoalDays mgoalHearer mleastOrder mwordsMany mtape (by omega) (by omega) (by omega) (by omega) (by omega) (by omega) (by omega) (by omega) (by omega) (by omega)) m_yX12_is b_1126 (ci := 12) rfl rfl rfl hP hD hS hA [1, 2] [0] rfl (by decide) rfl (by decide) (by decide) rfl hl.1 rfl (Nat.le_of_ble_eq_true rfl) dX12_readNext_48 ⟨(Nat.le_of_ble_eq_true rfl), (Nat.le_of_ble_eq_true rfl)⟩ ⟨(Nat.le_of_ble_eq_true rfl), (Nat.le_of_ble_eq_true rfl)⟩ (fun u311 H locs q312 hP hD hS => ?_)
            obtain ⟨q312_0, q312_1, q312_2⟩ := q312
            have hP : va_P g.1 vwCl [(a14, .inl (g.2 0, 225, .inl mfresh)), (h0, .inr (12, [.int mthrown, .ref a1, .ref a2, .ref a3, .ref a4, .int mtaped, .ref a6, .int msize, .int mat, .int mfrom, .int mtoken, .int mvalue, .int mfaultKind, .int mfaultPlace, .ref a14, .ref a15, .int mgoal, .int mgoalDays, .int mgoalHearer, .ref a19, .ref a20, .int mleastOrder, .int mwordsMany, .ref a23, .ref a24, .ref a25, .ref a26, .ref a27, .ref a28])), (a4, .inl (g.2 1, 900, .inl mtape))] H := hP
            have hD : va_D A [(a14, .inl (g.2 0, 225, .inl mfresh)), (h0, .inr (12, [.int mthrown, .ref a1, .ref a2, .ref a3, .ref a4, .int mtaped, .ref a6, .int msize, .int mat, .int mfrom, .int mtoken, .int mvalue, .int mfaultKind, .int mfaultPlace, .ref a14, .ref a15, .int mgoal, .int mgoalDays, .int mgoalHearer, .ref a19, .ref a20, .int mleastOrder, .int mwordsMany, .ref a23, .ref a24, .ref a25, .ref a26, .ref a27, .ref a28])), (a4, .inl (g.2 1, 900, .inl mtape))] := hD
            refine W.eq (g2 := F0 m 51 ls [.int (u311.1 0)]) rfl ?_
            rw [q312_1] at q312_0
            rw [q312_1] at q312_2
            refine tp_i (v := isF mfaultKind mtoken mat mfrom mtape 29) q312_1 ?_
            refine lv_if_eq (tgt := 58) hx hb dX12_readNext_51 (by decide) (fun c313 => ?_) (fun c313 => ?_)
            · have c313 := k_eq (a := (isF mfaultKind mtoken mat mfrom mtape 29).toInt) (b := 0) rfl (by decide) c313
              refine lv_iconst (v := 0) hx hb dX12_readNext_58 (by decide) ?_
              refine lv_istore_n (lv' := [(1, .int 0), (0, .ref h0)]) hx hb dX12_readNext_59 rfl hl (by decide) rfl (fun ls hl => ?_)
              have kc0 : (0 : Int32).toInt = 0 := by decide
              exact jn2 (0 : Int32) _ _ ls (by decide)  (hP.sub [1, 2, 0] rfl) (hD.sub [1, 2, 0] (by decide) rfl) hS (lv_sub hl [0, 1] rfl)
            · have c313 := k_ne (a := (isF mfaultKind mtoken mat mfrom mtape 29).toInt) (b := 0) rfl (by decide) c313
              refine lv_iconst (v := 1) hx hb dX12_readNext_54 (by decide) ?_
              refine lv_goto (tgt := 59) hx hb dX12_readNext_55 (by decide) ?_
              refine lv_istore_n (lv' := [(1, .int 1), (0, .ref h0)]) hx hb dX12_readNext_59 rfl hl (by decide) rfl (fun ls hl => ?_)
              have kc1 : (1 : Int32).toInt = 1 := by decide
              exact jn2 (1 : Int32) _ _ ls (by decide)  (hP.sub [1, 2, 0] rfl) (hD.sub [1, 2, 0] (by decide) rfl) hS (lv_sub hl [0, 1] rfl)
set_option maxRecDepth 100000 in
set_option maxHeartbeats 4000000 in
theorem k_X12_readLine (l : Launch) (g : GG) (h0 : Nat) (a1 : Nat) (a2 : Nat) (a3 : Nat) (a4 : Nat) (a6 : Nat) (a14 : Nat) (a15 : Nat) (a19 : Nat) (a20 : Nat) (a23 : Nat) (a24 : Nat) (a25 : Nat) (a26 : Nat) (a27 : Nat) (a28 : Nat) (mthrown : Int32) (mtaped : Int32) (msize : Int32) (mat : Int32) (mfrom : Int32) (mtoken : Int32) (mvalue : Int32) (mfaultKind : Int32) (mfaultPlace : Int32) (mgoal : Int32) (mgoalDays : Int32) (mgoalHearer : Int32) (mleastOrder : Int32) (mwordsMany : Int32) (mtape : Nat → Int32) (mfresh : Nat → Int32) (i_mtaped : 0 ≤ mtaped.toInt ∧ mtaped.toInt ≤ 900) (i_msize : 0 ≤ msize.toInt ∧ msize.toInt ≤ 900) (i_mat : 0 ≤ mat.toInt ∧ mat.toInt ≤ 900) (i_mfrom : 0 ≤ mfrom.toInt ∧ mfrom.toInt ≤ 900) (i_mtoken : 0 ≤ mtoken.toInt ∧ mtoken.toInt ≤ 4) (i_mvalue : 0 ≤ mvalue.toInt ∧ mvalue.toInt ≤ 99999) (i_mfaultKind : 0 ≤ mfaultKind.toInt ∧ mfaultKind.toInt ≤ 0) (i_mgoalHearer : 0 ≤ mgoalHearer.toInt ∧ mgoalHearer.toInt ≤ 3) (i_mwordsMany : 0 ≤ mwordsMany.toInt ∧ mwordsMany.toInt ≤ 10) (i_mfresh : wok mfresh) (hli : (mfresh 9).toInt ≠ 0 → 1 ≤ (mfresh 0).toInt ∧ 1 ≤ (mfresh 2).toInt) : Ct l g yX12_readLine cX12_readLine 1 none { frames := 10, cells := 0, slots := 0, locals := 219 } [.ref h0] [(h0, .inr (12, [.int mthrown, .ref a1, .ref a2, .ref a3, .ref a4, .int mtaped, .ref a6, .int msize, .int mat, .int mfrom, .int mtoken, .int mvalue, .int mfaultKind, .int mfaultPlace, .ref a14, .ref a15, .int mgoal, .int mgoalDays, .int mgoalHearer, .ref a19, .ref a20, .int mleastOrder, .int mwordsMany, .ref a23, .ref a24, .ref a25, .ref a26, .ref a27, .ref a28])), (a4, .inl (g.2 1, 900, .inl mtape)), (a14, .inl (g.2 0, 225, .inl mfresh))] (S := (Nat → Int32) × (Nat → Nat → Int32) × (Nat → Nat → Int64)) (fun _ => none) (fun u => (0 ≤ (u.1 1).toInt ∧ (u.1 1).toInt ≤ 900) ∧ (0 ≤ (u.1 2).toInt ∧ (u.1 2).toInt ≤ 900) ∧ (0 ≤ (u.1 3).toInt ∧ (u.1 3).toInt ≤ 4) ∧ (0 ≤ (u.1 4).toInt ∧ (u.1 4).toInt ≤ 99999) ∧ (0 ≤ (u.1 5).toInt ∧ (u.1 5).toInt ≤ 3) ∧ (wok (u.2.1 0)) ∧ ((u.1 5).toInt = 0 → 1 ≤ ((u.2.1 0) 0).toInt ∧ 1 ≤ ((u.2.1 0) 2).toInt ∧ 5 * mat.toInt - mtoken.toInt < 5 * (u.1 1).toInt - (u.1 3).toInt)) (fun u => [(h0, .inr (12, [.int mthrown, .ref a1, .ref a2, .ref a3, .ref a4, .int mtaped, .ref a6, .int msize, .int (u.1 1), .int (u.1 2), .int (u.1 3), .int (u.1 4), .int (u.1 5), .int (u.1 6), .ref a14, .ref a15, .int mgoal, .int mgoalDays, .int mgoalHearer, .ref a19, .ref a20, .int mleastOrder, .int mwordsMany, .ref a23, .ref a24, .ref a25, .ref a26, .ref a27, .ref a28])), (a4, .inl (g.2 1, 900, .inl mtape)), (a14, .inl (g.2 0, 225, .inl (u.2.1 0)))]) := by
  refine Ct.of (by decide) (Nat.le_of_ble_eq_true rfl) ?_
  intro p e s m below meth c A ls FX hP hD hS hl
  obtain ⟨FC, hr, hlk, hKn, hA, hnm, hZ⟩ := id FX
  have FC : CallFix p m c cX12_readLine 1 s _ BIG RX12 := FC
  obtain ⟨hx, hb, hml, hown, hB⟩ := id FC
  have hl : lv_has ls 1 [(0, .ref h0)] := hl
  refine lv_aload_n hx hb dX12_readLine_0 rfl (lv_at hl 0 rfl) ?_
  refine g_get (C := RX12) (T := TX12) (N := 29) (ci := 12) (v := .ref a14) FC hKn hP i_X12 0 rfl rfl 14 (by decide) b_1132 rfl dX12_readLine_1 ?_
  refine lv_bipush (v := 9) hx hb dX12_readLine_4 (by decide) ?_
  refine va_iald hx hb hKn.1 hP 2 0 rfl rfl (by unfold vp_in; decide) dX12_readLine_6 ?_
  have kc9 : (9 : Int32).toInt = 9 := by decide
  refine lv_topi (fun z1 e_z1 => ?_)
  have q_z1 : z1.toInt = (mfresh 9).toInt := by rw [e_z1]; rfl
  refine lv_if_ne (tgt := 17) hx hb dX12_readLine_7 (by decide) (fun c2 => ?_) (fun c2 => ?_)
  · have c2 := k_ne (a := z1.toInt) (b := 0) rfl (by decide) c2
    refine lv_aload_n hx hb dX12_readLine_17 rfl (lv_at hl 0 rfl) ?_
    refine call_V (As := []) (rest := []) (wr := []) FC hKn hZ (k_X12_readNext l g h0 a1 a2 a3 a4 a6 a14 a15 a19 a20 a23 a24 a25 a26 a27 a28 mthrown mtaped msize mat mfrom mtoken mvalue mfaultKind mfaultPlace mgoal mgoalDays mgoalHearer mleastOrder mwordsMany mtape mfresh (by omega) (by omega) (by omega) (by omega) (by omega) (by omega) (by omega) (by omega) (by omega) i_mfresh) m_yX12_readNext b_1164 (ci := 12) rfl rfl rfl hP hD hS hA [0, 1, 2] [] rfl (by decide) rfl (by decide) (by decide) rfl hl.1 rfl (Nat.le_of_ble_eq_true rfl) dX12_readLine_18 ⟨(Nat.le_of_ble_eq_true rfl), (Nat.le_of_ble_eq_true rfl)⟩ ⟨(Nat.le_of_ble_eq_true rfl), (Nat.le_of_ble_eq_true rfl)⟩ (fun u3 H locs q4 hP hD hS => ?_)
    obtain ⟨q4_0, q4_1, q4_2, q4_3, q4_4, q4_5, q4_6, q4_7, q4_8⟩ := q4
    have hP : va_P g.1 vwCl [(h0, .inr (12, [.int mthrown, .ref a1, .ref a2, .ref a3, .ref a4, .int mtaped, .ref a6, .int msize, .int (u3.1 1), .int (u3.1 2), .int (u3.1 3), .int (u3.1 4), .int (u3.1 5), .int (u3.1 6), .ref a14, .ref a15, .int mgoal, .int mgoalDays, .int mgoalHearer, .ref a19, .ref a20, .int mleastOrder, .int mwordsMany, .ref a23, .ref a24, .ref a25, .ref a26, .ref a27, .ref a28])), (a4, .inl (g.2 1, 900, .inl mtape)), (a14, .inl (g.2 0, 225, .inl (u3.2.1 0)))] H := hP
    have hD : va_D A [(h0, .inr (12, [.int mthrown, .ref a1, .ref a2, .ref a3, .ref a4, .int mtaped, .ref a6, .int msize, .int (u3.1 1), .int (u3.1 2), .int (u3.1 3), .int (u3.1 4), .int (u3.1 5), .int (u3.1 6), .ref a14, .ref a15, .int mgoal, .int mgoalDays, .int mgoalHearer, .ref a19, .ref a20, .int mleastOrder, .int mwordsMany, .ref a23, .ref a24, .ref a25, .ref a26, .ref a27, .ref a28])), (a4, .inl (g.2 1, 900, .inl mtape)), (a14, .inl (g.2 0, 225, .inl (u3.2.1 0)))] := hD
    refine W.eq (g2 := F0 m 21 ls []) rfl ?_
    refine lv_aload_n hx hb dX12_readLine_21 rfl (lv_at hl 0 rfl) ?_
    refine call_V (As := []) (rest := []) (wr := [(a4, .inl (g.2 1, 900, .inl mtape)), (a14, .inl (g.2 0, 225, .inl (u3.2.1 0)))]) FC hKn hZ (k_X12_good l g h0 a1 a2 a3 a4 a6 a14 a15 a19 a20 a23 a24 a25 a26 a27 a28 mthrown mtaped msize (u3.1 1) (u3.1 2) (u3.1 3) (u3.1 4) (u3.1 5) (u3.1 6) mgoal mgoalDays mgoalHearer mleastOrder mwordsMany (by omega) (by omega) (by omega) (by omega) (by omega) (by omega) (by omega) (by omega) (by omega)) m_yX12_good b_1117 (ci := 12) rfl rfl rfl hP hD hS hA [0] [1, 2] rfl (by decide) rfl (by decide) (by decide) rfl hl.1 rfl (Nat.le_of_ble_eq_true rfl) dX12_readLine_22 ⟨(Nat.le_of_ble_eq_true rfl), (Nat.le_of_ble_eq_true rfl)⟩ ⟨(Nat.le_of_ble_eq_true rfl), (Nat.le_of_ble_eq_true rfl)⟩ (fun u5 H locs q6 hP hD hS => ?_)
    obtain ⟨q6_0, q6_1⟩ := q6
    have hP : va_P g.1 vwCl [(a4, .inl (g.2 1, 900, .inl mtape)), (a14, .inl (g.2 0, 225, .inl (u3.2.1 0))), (h0, .inr (12, [.int mthrown, .ref a1, .ref a2, .ref a3, .ref a4, .int mtaped, .ref a6, .int msize, .int (u3.1 1), .int (u3.1 2), .int (u3.1 3), .int (u3.1 4), .int (u3.1 5), .int (u3.1 6), .ref a14, .ref a15, .int mgoal, .int mgoalDays, .int mgoalHearer, .ref a19, .ref a20, .int mleastOrder, .int mwordsMany, .ref a23, .ref a24, .ref a25, .ref a26, .ref a27, .ref a28]))] H := hP
    have hD : va_D A [(a4, .inl (g.2 1, 900, .inl mtape)), (a14, .inl (g.2 0, 225, .inl (u3.2.1 0))), (h0, .inr (12, [.int mthrown, .ref a1, .ref a2, .ref a3, .ref a4, .int mtaped, .ref a6, .int msize, .int (u3.1 1), .int (u3.1 2), .int (u3.1 3), .int (u3.1 4), .int (u3.1 5), .int (u3.1 6), .ref a14, .ref a15, .int mgoal, .int mgoalDays, .int mgoalHearer, .ref a19, .ref a20, .int mleastOrder, .int mwordsMany, .ref a23, .ref a24, .ref a25, .ref a26, .ref a27, .ref a28]))] := hD
    refine W.eq (g2 := F0 m 25 ls [.int (u5.1 0)]) rfl ?_
    rcases (show (u3.1 5).toInt = 0 ∨ (u3.1 5).toInt ≠ 0 by omega) with c7 | c7
    · skip
      refine tp_i (v := 1) (Int32.toInt_inj.mp (show (u5.1 0).toInt = (1 : Int32).toInt by rw [show (1 : Int32).toInt = 1 by decide]; omega)) ?_
      refine lv_if_eq (tgt := 41) hx hb dX12_readLine_25 (by decide) (fun h => absurd h (by decide)) (fun _ => ?_)
      refine lv_aload_n hx hb dX12_readLine_28 rfl (lv_at hl 0 rfl) ?_
      refine g_get (C := RX12) (T := TX12) (N := 29) (ci := 12) (v := .int (u3.1 3)) FC hKn hP i_X12 2 rfl rfl 10 (by decide) b_1114 rfl dX12_readLine_29 ?_
      refine lv_iconst (v := 3) hx hb dX12_readLine_32 (by decide) ?_
      refine lv_icmp_eq (tgt := 41) hx hb dX12_readLine_33 (by decide) (fun c8 => ?_) (fun c8 => ?_)
      · have c8 := k_eq (a := (u3.1 3).toInt) (b := 3) rfl (by decide) c8
        refine lv_aload_n hx hb dX12_readLine_41 rfl (lv_at hl 0 rfl) ?_
        refine call_V (As := []) (rest := []) (wr := [(a4, .inl (g.2 1, 900, .inl mtape)), (a14, .inl (g.2 0, 225, .inl (u3.2.1 0)))]) FC hKn hZ (k_X12_good l g h0 a1 a2 a3 a4 a6 a14 a15 a19 a20 a23 a24 a25 a26 a27 a28 mthrown mtaped msize (u3.1 1) (u3.1 2) (u3.1 3) (u3.1 4) (u3.1 5) (u3.1 6) mgoal mgoalDays mgoalHearer mleastOrder mwordsMany (by omega) (by omega) (by omega) (by omega) (by omega) (by omega) (by omega) (by omega) (by omega)) m_yX12_good b_1117 (ci := 12) rfl rfl rfl hP hD hS hA [2] [0, 1] rfl (by decide) rfl (by decide) (by decide) rfl hl.1 rfl (Nat.le_of_ble_eq_true rfl) dX12_readLine_42 ⟨(Nat.le_of_ble_eq_true rfl), (Nat.le_of_ble_eq_true rfl)⟩ ⟨(Nat.le_of_ble_eq_true rfl), (Nat.le_of_ble_eq_true rfl)⟩ (fun u9 H locs q10 hP hD hS => ?_)
        obtain ⟨q10_0, q10_1⟩ := q10
        have hP : va_P g.1 vwCl [(a4, .inl (g.2 1, 900, .inl mtape)), (a14, .inl (g.2 0, 225, .inl (u3.2.1 0))), (h0, .inr (12, [.int mthrown, .ref a1, .ref a2, .ref a3, .ref a4, .int mtaped, .ref a6, .int msize, .int (u3.1 1), .int (u3.1 2), .int (u3.1 3), .int (u3.1 4), .int (u3.1 5), .int (u3.1 6), .ref a14, .ref a15, .int mgoal, .int mgoalDays, .int mgoalHearer, .ref a19, .ref a20, .int mleastOrder, .int mwordsMany, .ref a23, .ref a24, .ref a25, .ref a26, .ref a27, .ref a28]))] H := hP
        have hD : va_D A [(a4, .inl (g.2 1, 900, .inl mtape)), (a14, .inl (g.2 0, 225, .inl (u3.2.1 0))), (h0, .inr (12, [.int mthrown, .ref a1, .ref a2, .ref a3, .ref a4, .int mtaped, .ref a6, .int msize, .int (u3.1 1), .int (u3.1 2), .int (u3.1 3), .int (u3.1 4), .int (u3.1 5), .int (u3.1 6), .ref a14, .ref a15, .int mgoal, .int mgoalDays, .int mgoalHearer, .ref a19, .ref a20, .int mleastOrder, .int mwordsMany, .ref a23, .ref a24, .ref a25, .ref a26, .ref a27, .ref a28]))] := hD
        refine W.eq (g2 := F0 m 45 ls [.int (u9.1 0)]) rfl ?_
        refine tp_i (v := 1) (Int32.toInt_inj.mp (show (u9.1 0).toInt = (1 : Int32).toInt by rw [show (1 : Int32).toInt = 1 by decide]; omega)) ?_
        refine lv_if_eq (tgt := 52) hx hb dX12_readLine_45 (by decide) (fun h => absurd h (by decide)) (fun _ => ?_)
        refine lv_aload_n hx hb dX12_readLine_48 rfl (lv_at hl 0 rfl) ?_
        refine call_V (As := []) (rest := []) (wr := [(a14, .inl (g.2 0, 225, .inl (u3.2.1 0)))]) FC hKn hZ (k_X12_advance l g h0 a1 a2 a3 a4 a6 a14 a15 a19 a20 a23 a24 a25 a26 a27 a28 mthrown mtaped msize (u3.1 1) (u3.1 2) (u3.1 3) (u3.1 4) (u3.1 5) (u3.1 6) mgoal mgoalDays mgoalHearer mleastOrder mwordsMany mtape (by omega) (by omega) (by omega) (by omega) (by omega) (by omega) (by omega) (by omega) (by omega)) m_yX12_advance b_1127 (ci := 12) rfl rfl rfl hP hD hS hA [2, 0] [1] rfl (by decide) rfl (by decide) (by decide) rfl hl.1 rfl (Nat.le_of_ble_eq_true rfl) dX12_readLine_49 ⟨(Nat.le_of_ble_eq_true rfl), (Nat.le_of_ble_eq_true rfl)⟩ ⟨(Nat.le_of_ble_eq_true rfl), (Nat.le_of_ble_eq_true rfl)⟩ (fun u11 H locs q12 hP hD hS => ?_)
        obtain ⟨q12_0, q12_1, q12_2, q12_3, q12_4, q12_5⟩ := q12
        have hP : va_P g.1 vwCl [(a14, .inl (g.2 0, 225, .inl (u3.2.1 0))), (h0, .inr (12, [.int mthrown, .ref a1, .ref a2, .ref a3, .ref a4, .int mtaped, .ref a6, .int msize, .int (u11.1 1), .int (u11.1 2), .int (u11.1 3), .int (u11.1 4), .int (u3.1 5), .int (u3.1 6), .ref a14, .ref a15, .int mgoal, .int mgoalDays, .int mgoalHearer, .ref a19, .ref a20, .int mleastOrder, .int mwordsMany, .ref a23, .ref a24, .ref a25, .ref a26, .ref a27, .ref a28])), (a4, .inl (g.2 1, 900, .inl mtape))] H := hP
        have hD : va_D A [(a14, .inl (g.2 0, 225, .inl (u3.2.1 0))), (h0, .inr (12, [.int mthrown, .ref a1, .ref a2, .ref a3, .ref a4, .int mtaped, .ref a6, .int msize, .int (u11.1 1), .int (u11.1 2), .int (u11.1 3), .int (u11.1 4), .int (u3.1 5), .int (u3.1 6), .ref a14, .ref a15, .int mgoal, .int mgoalDays, .int mgoalHearer, .ref a19, .ref a20, .int mleastOrder, .int mwordsMany, .ref a23, .ref a24, .ref a25, .ref a26, .ref a27, .ref a28])), (a4, .inl (g.2 1, 900, .inl mtape))] := hD
        refine W.eq (g2 := F0 m 52 ls []) rfl ?_
        refine lv_aload_n hx hb dX12_readLine_52 rfl (lv_at hl 0 rfl) ?_
        refine g_get (C := RX12) (T := TX12) (N := 29) (ci := 12) (v := .ref a14) FC hKn hP i_X12 1 rfl rfl 14 (by decide) b_1132 rfl dX12_readLine_53 ?_
        refine lv_bipush (v := 9) hx hb dX12_readLine_56 (by decide) ?_
        refine lv_dup2_11 hx hb dX12_readLine_58 rfl rfl ?_
        refine va_iald hx hb hKn.1 hP 0 0 rfl rfl (by unfold vp_in; decide) dX12_readLine_59 ?_
        refine lv_topi (fun z13 e_z13 => ?_)
        have q_z13 : z13.toInt = ((u3.2.1 0) 9).toInt := by rw [e_z13]; rfl
        refine lv_iconst (v := 1) hx hb dX12_readLine_60 (by decide) ?_
        refine lv_iadd hx hb dX12_readLine_61 ?_
        refine lv_topi (fun z14 e_z14 => ?_)
        refine va_iast hx hb hKn.1 hP hD hS 0 0 rfl rfl (by unfold vp_in; decide) dX12_readLine_62 (fun H locs hP hD hS => ?_)
        have hP : va_P g.1 vwCl [(a14, .inl (g.2 0, 225, .inl (upd (u3.2.1 0) ((9 : Int32).toNatClampNeg) z14))), (h0, .inr (12, [.int mthrown, .ref a1, .ref a2, .ref a3, .ref a4, .int mtaped, .ref a6, .int msize, .int (u11.1 1), .int (u11.1 2), .int (u11.1 3), .int (u11.1 4), .int (u3.1 5), .int (u3.1 6), .ref a14, .ref a15, .int mgoal, .int mgoalDays, .int mgoalHearer, .ref a19, .ref a20, .int mleastOrder, .int mwordsMany, .ref a23, .ref a24, .ref a25, .ref a26, .ref a27, .ref a28])), (a4, .inl (g.2 1, 900, .inl mtape))] H := hP
        have hD : va_D A [(a14, .inl (g.2 0, 225, .inl (upd (u3.2.1 0) ((9 : Int32).toNatClampNeg) z14))), (h0, .inr (12, [.int mthrown, .ref a1, .ref a2, .ref a3, .ref a4, .int mtaped, .ref a6, .int msize, .int (u11.1 1), .int (u11.1 2), .int (u11.1 3), .int (u11.1 4), .int (u3.1 5), .int (u3.1 6), .ref a14, .ref a15, .int mgoal, .int mgoalDays, .int mgoalHearer, .ref a19, .ref a20, .int mleastOrder, .int mwordsMany, .ref a23, .ref a24, .ref a25, .ref a26, .ref a27, .ref a28])), (a4, .inl (g.2 1, 900, .inl mtape))] := hD
        have a_f15 : wok (upd (u3.2.1 0) ((9 : Int32).toNatClampNeg) z14) := (wk_free (k := 9) q4_5 (by decide) (by decide))
        generalize E_f15 : (upd (u3.2.1 0) ((9 : Int32).toNatClampNeg) z14 : Nat → Int32) = f15 at hP hD a_f15
        have g_f15_0 : (f15 0).toInt = ((u3.2.1 0) 0).toInt := by rw [← E_f15]; exact congrArg Int32.toInt (uo (k := 9) (by decide))
        have g_f15_2 : (f15 2).toInt = ((u3.2.1 0) 2).toInt := by rw [← E_f15]; exact congrArg Int32.toInt (uo (k := 9) (by decide))
        have g_f15_5 : (f15 5).toInt = ((u3.2.1 0) 5).toInt := by rw [← E_f15]; exact congrArg Int32.toInt (uo (k := 9) (by decide))
        have g_f15_6 : (f15 6).toInt = ((u3.2.1 0) 6).toInt := by rw [← E_f15]; exact congrArg Int32.toInt (uo (k := 9) (by decide))
        have g_f15_7 : (f15 7).toInt = ((u3.2.1 0) 7).toInt := by rw [← E_f15]; exact congrArg Int32.toInt (uo (k := 9) (by decide))
        have g_f15_8 : (f15 8).toInt = ((u3.2.1 0) 8).toInt := by rw [← E_f15]; exact congrArg Int32.toInt (uo (k := 9) (by decide))
        have g_f15_9 : (f15 9).toInt = z14.toInt := by rw [← E_f15]; exact congrArg Int32.toInt (pk_us (k := 9))
        exact rt_v FX ((fun k => match k with | 0 => 0 | 1 => u11.1 1 | 2 => u11.1 2 | 3 => u11.1 3 | 4 => u11.1 4 | 5 => u3.1 5 | 6 => u3.1 6 | _ => 0), (fun k => match k with | 0 => f15 | _ => fun _ => 0), (fun _ => fun _ => 0)) rfl ⟨(show 0 ≤ (u11.1 1).toInt ∧ (u11.1 1).toInt ≤ 900 by omega), (show 0 ≤ (u11.1 2).toInt ∧ (u11.1 2).toInt ≤ 900 by omega), (show 0 ≤ (u11.1 3).toInt ∧ (u11.1 3).toInt ≤ 4 by omega), (show 0 ≤ (u11.1 4).toInt ∧ (u11.1 4).toInt ≤ 99999 by omega), (show 0 ≤ (u3.1 5).toInt ∧ (u3.1 5).toInt ≤ 3 by omega), a_f15, (show (u3.1 5).toInt = 0 → 1 ≤ ((f15) 0).toInt ∧ 1 ≤ ((f15) 2).toInt ∧ 5 * mat.toInt - mtoken.toInt < 5 * (u11.1 1).toInt - (u11.1 3).toInt from (fun h9 => by have h8 : (u3.1 5).toInt = 0 := h9; show 1 ≤ (f15 0).toInt ∧ 1 ≤ (f15 2).toInt ∧ 5 * mat.toInt - mtoken.toInt < 5 * (u11.1 1).toInt - (u11.1 3).toInt; omega))⟩ (hP.sub [1, 2, 0] rfl) (hD.sub [1, 2, 0] (by decide) rfl) hS (Nat.le_of_ble_eq_true rfl) (Nat.le_of_ble_eq_true rfl) dX12_readLine_63
      · have c8 := k_ne (a := (u3.1 3).toInt) (b := 3) rfl (by decide) c8
        refine lv_aload_n hx hb dX12_readLine_36 rfl (lv_at hl 0 rfl) ?_
        refine lv_iconst (v := 1) hx hb dX12_readLine_37 (by decide) ?_
        have kc1 : (1 : Int32).toInt = 1 := by decide
        refine call_V (As := [.int 1]) (rest := []) (wr := [(a4, .inl (g.2 1, 900, .inl mtape)), (a14, .inl (g.2 0, 225, .inl (u3.2.1 0)))]) FC hKn hZ (k_X12_errs l g h0 a1 a2 a3 a4 a6 a14 a15 a19 a20 a23 a24 a25 a26 a27 a28 mthrown mtaped msize (u3.1 1) (u3.1 2) (u3.1 3) (u3.1 4) (u3.1 5) (u3.1 6) mgoal mgoalDays mgoalHearer mleastOrder mwordsMany ((1 : Int32)) (by omega) (by omega) (by omega) (by omega) (by omega) (by omega) (by omega) (by omega) (by omega) (by omega)) m_yX12_errs b_1129 (ci := 12) rfl rfl rfl hP hD hS hA [2] [0, 1] rfl (by decide) rfl (by decide) (by decide) rfl hl.1 rfl (Nat.le_of_ble_eq_true rfl) dX12_readLine_38 ⟨(Nat.le_of_ble_eq_true rfl), (Nat.le_of_ble_eq_true rfl)⟩ ⟨(Nat.le_of_ble_eq_true rfl), (Nat.le_of_ble_eq_true rfl)⟩ (fun u16 H locs q17 hP hD hS => ?_)
        have q17_0 : 1 ≤ (u16.1 1).toInt ∧ (u16.1 1).toInt ≤ 3 := q17
        have hP : va_P g.1 vwCl [(a4, .inl (g.2 1, 900, .inl mtape)), (a14, .inl (g.2 0, 225, .inl (u3.2.1 0))), (h0, .inr (12, [.int mthrown, .ref a1, .ref a2, .ref a3, .ref a4, .int mtaped, .ref a6, .int msize, .int (u3.1 1), .int (u3.1 2), .int (u3.1 3), .int (u3.1 4), .int (u16.1 1), .int (u16.1 2), .ref a14, .ref a15, .int mgoal, .int mgoalDays, .int mgoalHearer, .ref a19, .ref a20, .int mleastOrder, .int mwordsMany, .ref a23, .ref a24, .ref a25, .ref a26, .ref a27, .ref a28]))] H := hP
        have hD : va_D A [(a4, .inl (g.2 1, 900, .inl mtape)), (a14, .inl (g.2 0, 225, .inl (u3.2.1 0))), (h0, .inr (12, [.int mthrown, .ref a1, .ref a2, .ref a3, .ref a4, .int mtaped, .ref a6, .int msize, .int (u3.1 1), .int (u3.1 2), .int (u3.1 3), .int (u3.1 4), .int (u16.1 1), .int (u16.1 2), .ref a14, .ref a15, .int mgoal, .int mgoalDays, .int mgoalHearer, .ref a19, .ref a20, .int mleastOrder, .int mwordsMany, .ref a23, .ref a24, .ref a25, .ref a26, .ref a27, .ref a28]))] := hD
        refine W.eq (g2 := F0 m 41 ls []) rfl ?_
        refine lv_aload_n hx hb dX12_readLine_41 rfl (lv_at hl 0 rfl) ?_
        refine call_V (As := []) (rest := []) (wr := [(a4, .inl (g.2 1, 900, .inl mtape)), (a14, .inl (g.2 0, 225, .inl (u3.2.1 0)))]) FC hKn hZ (k_X12_good l g h0 a1 a2 a3 a4 a6 a14 a15 a19 a20 a23 a24 a25 a26 a27 a28 mthrown mtaped msize (u3.1 1) (u3.1 2) (u3.1 3) (u3.1 4) (u16.1 1) (u16.1 2) mgoal mgoalDays mgoalHearer mleastOrder mwordsMany (by omega) (by omega) (by omega) (by omega) (by omega) (by omega) (by omega) (by omega) (by omega)) m_yX12_good b_1117 (ci := 12) rfl rfl rfl hP hD hS hA [2] [0, 1] rfl (by decide) rfl (by decide) (by decide) rfl hl.1 rfl (Nat.le_of_ble_eq_true rfl) dX12_readLine_42 ⟨(Nat.le_of_ble_eq_true rfl), (Nat.le_of_ble_eq_true rfl)⟩ ⟨(Nat.le_of_ble_eq_true rfl), (Nat.le_of_ble_eq_true rfl)⟩ (fun u18 H locs q19 hP hD hS => ?_)
        obtain ⟨q19_0, q19_1⟩ := q19
        have hP : va_P g.1 vwCl [(a4, .inl (g.2 1, 900, .inl mtape)), (a14, .inl (g.2 0, 225, .inl (u3.2.1 0))), (h0, .inr (12, [.int mthrown, .ref a1, .ref a2, .ref a3, .ref a4, .int mtaped, .ref a6, .int msize, .int (u3.1 1), .int (u3.1 2), .int (u3.1 3), .int (u3.1 4), .int (u16.1 1), .int (u16.1 2), .ref a14, .ref a15, .int mgoal, .int mgoalDays, .int mgoalHearer, .ref a19, .ref a20, .int mleastOrder, .int mwordsMany, .ref a23, .ref a24, .ref a25, .ref a26, .ref a27, .ref a28]))] H := hP
        have hD : va_D A [(a4, .inl (g.2 1, 900, .inl mtape)), (a14, .inl (g.2 0, 225, .inl (u3.2.1 0))), (h0, .inr (12, [.int mthrown, .ref a1, .ref a2, .ref a3, .ref a4, .int mtaped, .ref a6, .int msize, .int (u3.1 1), .int (u3.1 2), .int (u3.1 3), .int (u3.1 4), .int (u16.1 1), .int (u16.1 2), .ref a14, .ref a15, .int mgoal, .int mgoalDays, .int mgoalHearer, .ref a19, .ref a20, .int mleastOrder, .int mwordsMany, .ref a23, .ref a24, .ref a25, .ref a26, .ref a27, .ref a28]))] := hD
        refine W.eq (g2 := F0 m 45 ls [.int (u18.1 0)]) rfl ?_
        refine tp_i (v := 0) (Int32.toInt_inj.mp (show (u18.1 0).toInt = (0 : Int32).toInt by rw [show (0 : Int32).toInt = 0 by decide]; omega)) ?_
        refine lv_if_eq (tgt := 52) hx hb dX12_readLine_45 (by decide) (fun _ => ?_) (fun h => absurd h (by decide))
        refine lv_aload_n hx hb dX12_readLine_52 rfl (lv_at hl 0 rfl) ?_
        refine g_get (C := RX12) (T := TX12) (N := 29) (ci := 12) (v := .ref a14) FC hKn hP i_X12 2 rfl rfl 14 (by decide) b_1132 rfl dX12_readLine_53 ?_
        refine lv_bipush (v := 9) hx hb dX12_readLine_56 (by decide) ?_
        refine lv_dup2_11 hx hb dX12_readLine_58 rfl rfl ?_
        refine va_iald hx hb hKn.1 hP 1 0 rfl rfl (by unfold vp_in; decide) dX12_readLine_59 ?_
        refine lv_topi (fun z20 e_z20 => ?_)
        have q_z20 : z20.toInt = ((u3.2.1 0) 9).toInt := by rw [e_z20]; rfl
        refine lv_iconst (v := 1) hx hb dX12_readLine_60 (by decide) ?_
        refine lv_iadd hx hb dX12_readLine_61 ?_
        refine lv_topi (fun z21 e_z21 => ?_)
        refine va_iast hx hb hKn.1 hP hD hS 1 0 rfl rfl (by unfold vp_in; decide) dX12_readLine_62 (fun H locs hP hD hS => ?_)
        have hP : va_P g.1 vwCl [(a4, .inl (g.2 1, 900, .inl mtape)), (a14, .inl (g.2 0, 225, .inl (upd (u3.2.1 0) ((9 : Int32).toNatClampNeg) z21))), (h0, .inr (12, [.int mthrown, .ref a1, .ref a2, .ref a3, .ref a4, .int mtaped, .ref a6, .int msize, .int (u3.1 1), .int (u3.1 2), .int (u3.1 3), .int (u3.1 4), .int (u16.1 1), .int (u16.1 2), .ref a14, .ref a15, .int mgoal, .int mgoalDays, .int mgoalHearer, .ref a19, .ref a20, .int mleastOrder, .int mwordsMany, .ref a23, .ref a24, .ref a25, .ref a26, .ref a27, .ref a28]))] H := hP
        have hD : va_D A [(a4, .inl (g.2 1, 900, .inl mtape)), (a14, .inl (g.2 0, 225, .inl (upd (u3.2.1 0) ((9 : Int32).toNatClampNeg) z21))), (h0, .inr (12, [.int mthrown, .ref a1, .ref a2, .ref a3, .ref a4, .int mtaped, .ref a6, .int msize, .int (u3.1 1), .int (u3.1 2), .int (u3.1 3), .int (u3.1 4), .int (u16.1 1), .int (u16.1 2), .ref a14, .ref a15, .int mgoal, .int mgoalDays, .int mgoalHearer, .ref a19, .ref a20, .int mleastOrder, .int mwordsMany, .ref a23, .ref a24, .ref a25, .ref a26, .ref a27, .ref a28]))] := hD
        have a_f22 : wok (upd (u3.2.1 0) ((9 : Int32).toNatClampNeg) z21) := (wk_free (k := 9) q4_5 (by decide) (by decide))
        generalize E_f22 : (upd (u3.2.1 0) ((9 : Int32).toNatClampNeg) z21 : Nat → Int32) = f22 at hP hD a_f22
        have g_f22_0 : (f22 0).toInt = ((u3.2.1 0) 0).toInt := by rw [← E_f22]; exact congrArg Int32.toInt (uo (k := 9) (by decide))
        have g_f22_2 : (f22 2).toInt = ((u3.2.1 0) 2).toInt := by rw [← E_f22]; exact congrArg Int32.toInt (uo (k := 9) (by decide))
        have g_f22_5 : (f22 5).toInt = ((u3.2.1 0) 5).toInt := by rw [← E_f22]; exact congrArg Int32.toInt (uo (k := 9) (by decide))
        have g_f22_6 : (f22 6).toInt = ((u3.2.1 0) 6).toInt := by rw [← E_f22]; exact congrArg Int32.toInt (uo (k := 9) (by decide))
        have g_f22_7 : (f22 7).toInt = ((u3.2.1 0) 7).toInt := by rw [← E_f22]; exact congrArg Int32.toInt (uo (k := 9) (by decide))
        have g_f22_8 : (f22 8).toInt = ((u3.2.1 0) 8).toInt := by rw [← E_f22]; exact congrArg Int32.toInt (uo (k := 9) (by decide))
        have g_f22_9 : (f22 9).toInt = z21.toInt := by rw [← E_f22]; exact congrArg Int32.toInt (pk_us (k := 9))
        exact rt_v FX ((fun k => match k with | 0 => 0 | 1 => u3.1 1 | 2 => u3.1 2 | 3 => u3.1 3 | 4 => u3.1 4 | 5 => u16.1 1 | 6 => u16.1 2 | _ => 0), (fun k => match k with | 0 => f22 | _ => fun _ => 0), (fun _ => fun _ => 0)) rfl ⟨(show 0 ≤ (u3.1 1).toInt ∧ (u3.1 1).toInt ≤ 900 by omega), (show 0 ≤ (u3.1 2).toInt ∧ (u3.1 2).toInt ≤ 900 by omega), (show 0 ≤ (u3.1 3).toInt ∧ (u3.1 3).toInt ≤ 4 by omega), (show 0 ≤ (u3.1 4).toInt ∧ (u3.1 4).toInt ≤ 99999 by omega), (show 0 ≤ (u16.1 1).toInt ∧ (u16.1 1).toInt ≤ 3 by omega), a_f22, (show (u16.1 1).toInt = 0 → 1 ≤ ((f22) 0).toInt ∧ 1 ≤ ((f22) 2).toInt ∧ 5 * mat.toInt - mtoken.toInt < 5 * (u3.1 1).toInt - (u3.1 3).toInt from (fun h9 => by have h8 : (u16.1 1).toInt = 0 := h9; show 1 ≤ (f22 0).toInt ∧ 1 ≤ (f22 2).toInt ∧ 5 * mat.toInt - mtoken.toInt < 5 * (u3.1 1).toInt - (u3.1 3).toInt; omega))⟩ (hP.sub [2, 0, 1] rfl) (hD.sub [2, 0, 1] (by decide) rfl) hS (Nat.le_of_ble_eq_true rfl) (Nat.le_of_ble_eq_true rfl) dX12_readLine_63
    · skip
      refine tp_i (v := 0) (Int32.toInt_inj.mp (show (u5.1 0).toInt = (0 : Int32).toInt by rw [show (0 : Int32).toInt = 0 by decide]; omega)) ?_
      refine lv_if_eq (tgt := 41) hx hb dX12_readLine_25 (by decide) (fun _ => ?_) (fun h => absurd h (by decide))
      refine lv_aload_n hx hb dX12_readLine_41 rfl (lv_at hl 0 rfl) ?_
      refine call_V (As := []) (rest := []) (wr := [(a4, .inl (g.2 1, 900, .inl mtape)), (a14, .inl (g.2 0, 225, .inl (u3.2.1 0)))]) FC hKn hZ (k_X12_good l g h0 a1 a2 a3 a4 a6 a14 a15 a19 a20 a23 a24 a25 a26 a27 a28 mthrown mtaped msize (u3.1 1) (u3.1 2) (u3.1 3) (u3.1 4) (u3.1 5) (u3.1 6) mgoal mgoalDays mgoalHearer mleastOrder mwordsMany (by omega) (by omega) (by omega) (by omega) (by omega) (by omega) (by omega) (by omega) (by omega)) m_yX12_good b_1117 (ci := 12) rfl rfl rfl hP hD hS hA [2] [0, 1] rfl (by decide) rfl (by decide) (by decide) rfl hl.1 rfl (Nat.le_of_ble_eq_true rfl) dX12_readLine_42 ⟨(Nat.le_of_ble_eq_true rfl), (Nat.le_of_ble_eq_true rfl)⟩ ⟨(Nat.le_of_ble_eq_true rfl), (Nat.le_of_ble_eq_true rfl)⟩ (fun u23 H locs q24 hP hD hS => ?_)
      obtain ⟨q24_0, q24_1⟩ := q24
      have hP : va_P g.1 vwCl [(a4, .inl (g.2 1, 900, .inl mtape)), (a14, .inl (g.2 0, 225, .inl (u3.2.1 0))), (h0, .inr (12, [.int mthrown, .ref a1, .ref a2, .ref a3, .ref a4, .int mtaped, .ref a6, .int msize, .int (u3.1 1), .int (u3.1 2), .int (u3.1 3), .int (u3.1 4), .int (u3.1 5), .int (u3.1 6), .ref a14, .ref a15, .int mgoal, .int mgoalDays, .int mgoalHearer, .ref a19, .ref a20, .int mleastOrder, .int mwordsMany, .ref a23, .ref a24, .ref a25, .ref a26, .ref a27, .ref a28]))] H := hP
      have hD : va_D A [(a4, .inl (g.2 1, 900, .inl mtape)), (a14, .inl (g.2 0, 225, .inl (u3.2.1 0))), (h0, .inr (12, [.int mthrown, .ref a1, .ref a2, .ref a3, .ref a4, .int mtaped, .ref a6, .int msize, .int (u3.1 1), .int (u3.1 2), .int (u3.1 3), .int (u3.1 4), .int (u3.1 5), .int (u3.1 6), .ref a14, .ref a15, .int mgoal, .int mgoalDays, .int mgoalHearer, .ref a19, .ref a20, .int mleastOrder, .int mwordsMany, .ref a23, .ref a24, .ref a25, .ref a26, .ref a27, .ref a28]))] := hD
      refine W.eq (g2 := F0 m 45 ls [.int (u23.1 0)]) rfl ?_
      refine tp_i (v := 0) (Int32.toInt_inj.mp (show (u23.1 0).toInt = (0 : Int32).toInt by rw [show (0 : Int32).toInt = 0 by decide]; omega)) ?_
      refine lv_if_eq (tgt := 52) hx hb dX12_readLine_45 (by decide) (fun _ => ?_) (fun h => absurd h (by decide))
      refine lv_aload_n hx hb dX12_readLine_52 rfl (lv_at hl 0 rfl) ?_
      refine g_get (C := RX12) (T := TX12) (N := 29) (ci := 12) (v := .ref a14) FC hKn hP i_X12 2 rfl rfl 14 (by decide) b_1132 rfl dX12_readLine_53 ?_
      refine lv_bipush (v := 9) hx hb dX12_readLine_56 (by decide) ?_
      refine lv_dup2_11 hx hb dX12_readLine_58 rfl rfl ?_
      refine va_iald hx hb hKn.1 hP 1 0 rfl rfl (by unfold vp_in; decide) dX12_readLine_59 ?_
      refine lv_topi (fun z25 e_z25 => ?_)
      have q_z25 : z25.toInt = ((u3.2.1 0) 9).toInt := by rw [e_z25]; rfl
      refine lv_iconst (v := 1) hx hb dX12_readLine_60 (by decide) ?_
      refine lv_iadd hx hb dX12_readLine_61 ?_
      refine lv_topi (fun z26 e_z26 => ?_)
      refine va_iast hx hb hKn.1 hP hD hS 1 0 rfl rfl (by unfold vp_in; decide) dX12_readLine_62 (fun H locs hP hD hS => ?_)
      have hP : va_P g.1 vwCl [(a4, .inl (g.2 1, 900, .inl mtape)), (a14, .inl (g.2 0, 225, .inl (upd (u3.2.1 0) ((9 : Int32).toNatClampNeg) z26))), (h0, .inr (12, [.int mthrown, .ref a1, .ref a2, .ref a3, .ref a4, .int mtaped, .ref a6, .int msize, .int (u3.1 1), .int (u3.1 2), .int (u3.1 3), .int (u3.1 4), .int (u3.1 5), .int (u3.1 6), .ref a14, .ref a15, .int mgoal, .int mgoalDays, .int mgoalHearer, .ref a19, .ref a20, .int mleastOrder, .int mwordsMany, .ref a23, .ref a24, .ref a25, .ref a26, .ref a27, .ref a28]))] H := hP
      have hD : va_D A [(a4, .inl (g.2 1, 900, .inl mtape)), (a14, .inl (g.2 0, 225, .inl (upd (u3.2.1 0) ((9 : Int32).toNatClampNeg) z26))), (h0, .inr (12, [.int mthrown, .ref a1, .ref a2, .ref a3, .ref a4, .int mtaped, .ref a6, .int msize, .int (u3.1 1), .int (u3.1 2), .int (u3.1 3), .int (u3.1 4), .int (u3.1 5), .int (u3.1 6), .ref a14, .ref a15, .int mgoal, .int mgoalDays, .int mgoalHearer, .ref a19, .ref a20, .int mleastOrder, .int mwordsMany, .ref a23, .ref a24, .ref a25, .ref a26, .ref a27, .ref a28]))] := hD
      have a_f27 : wok (upd (u3.2.1 0) ((9 : Int32).toNatClampNeg) z26) := (wk_free (k := 9) q4_5 (by decide) (by decide))
      generalize E_f27 : (upd (u3.2.1 0) ((9 : Int32).toNatClampNeg) z26 : Nat → Int32) = f27 at hP hD a_f27
      have g_f27_0 : (f27 0).toInt = ((u3.2.1 0) 0).toInt := by rw [← E_f27]; exact congrArg Int32.toInt (uo (k := 9) (by decide))
      have g_f27_2 : (f27 2).toInt = ((u3.2.1 0) 2).toInt := by rw [← E_f27]; exact congrArg Int32.toInt (uo (k := 9) (by decide))
      have g_f27_5 : (f27 5).toInt = ((u3.2.1 0) 5).toInt := by rw [← E_f27]; exact congrArg Int32.toInt (uo (k := 9) (by decide))
      have g_f27_6 : (f27 6).toInt = ((u3.2.1 0) 6).toInt := by rw [← E_f27]; exact congrArg Int32.toInt (uo (k := 9) (by decide))
      have g_f27_7 : (f27 7).toInt = ((u3.2.1 0) 7).toInt := by rw [← E_f27]; exact congrArg Int32.toInt (uo (k := 9) (by decide))
      have g_f27_8 : (f27 8).toInt = ((u3.2.1 0) 8).toInt := by rw [← E_f27]; exact congrArg Int32.toInt (uo (k := 9) (by decide))
      have g_f27_9 : (f27 9).toInt = z26.toInt := by rw [← E_f27]; exact congrArg Int32.toInt (pk_us (k := 9))
      exact rt_v FX ((fun k => match k with | 0 => 0 | 1 => u3.1 1 | 2 => u3.1 2 | 3 => u3.1 3 | 4 => u3.1 4 | 5 => u3.1 5 | 6 => u3.1 6 | _ => 0), (fun k => match k with | 0 => f27 | _ => fun _ => 0), (fun _ => fun _ => 0)) rfl ⟨(show 0 ≤ (u3.1 1).toInt ∧ (u3.1 1).toInt ≤ 900 by omega), (show 0 ≤ (u3.1 2).toInt ∧ (u3.1 2).toInt ≤ 900 by omega), (show 0 ≤ (u3.1 3).toInt ∧ (u3.1 3).toInt ≤ 4 by omega), (show 0 ≤ (u3.1 4).toInt ∧ (u3.1 4).toInt ≤ 99999 by omega), (show 0 ≤ (u3.1 5).toInt ∧ (u3.1 5).toInt ≤ 3 by omega), a_f27, (show (u3.1 5).toInt = 0 → 1 ≤ ((f27) 0).toInt ∧ 1 ≤ ((f27) 2).toInt ∧ 5 * mat.toInt - mtoken.toInt < 5 * (u3.1 1).toInt - (u3.1 3).toInt from (fun h9 => by have h8 : (u3.1 5).toInt = 0 := h9; show 1 ≤ (f27 0).toInt ∧ 1 ≤ (f27 2).toInt ∧ 5 * mat.toInt - mtoken.toInt < 5 * (u3.1 1).toInt - (u3.1 3).toInt; omega))⟩ (hP.sub [2, 0, 1] rfl) (hD.sub [2, 0, 1] (by decide) rfl) hS (Nat.le_of_ble_eq_true rfl) (Nat.le_of_ble_eq_true rfl) dX12_readLine_63
  · have c2 := k_eq (a := z1.toInt) (b := 0) rfl (by decide) c2
    refine lv_aload_n hx hb dX12_readLine_10 rfl (lv_at hl 0 rfl) ?_
    refine call_V (As := []) (rest := []) (wr := []) FC hKn hZ (k_X12_readFirst l g h0 a1 a2 a3 a4 a6 a14 a15 a19 a20 a23 a24 a25 a26 a27 a28 mthrown mtaped msize mat mfrom mtoken mvalue mfaultKind mfaultPlace mgoal mgoalDays mgoalHearer mleastOrder mwordsMany mtape mfresh (by omega) (by omega) (by omega) (by omega) (by omega) (by omega) (by omega) (by omega) (by omega) i_mfresh) m_yX12_readFirst b_1165 (ci := 12) rfl rfl rfl hP hD hS hA [0, 1, 2] [] rfl (by decide) rfl (by decide) (by decide) rfl hl.1 rfl (Nat.le_of_ble_eq_true rfl) dX12_readLine_11 ⟨(Nat.le_of_ble_eq_true rfl), (Nat.le_of_ble_eq_true rfl)⟩ ⟨(Nat.le_of_ble_eq_true rfl), (Nat.le_of_ble_eq_true rfl)⟩ (fun u28 H locs q29 hP hD hS => ?_)
    obtain ⟨q29_0, q29_1, q29_2, q29_3, q29_4, q29_5, q29_6, q29_7, q29_8⟩ := q29
    have hP : va_P g.1 vwCl [(h0, .inr (12, [.int mthrown, .ref a1, .ref a2, .ref a3, .ref a4, .int mtaped, .ref a6, .int msize, .int (u28.1 1), .int (u28.1 2), .int (u28.1 3), .int (u28.1 4), .int (u28.1 5), .int (u28.1 6), .ref a14, .ref a15, .int mgoal, .int mgoalDays, .int mgoalHearer, .ref a19, .ref a20, .int mleastOrder, .int mwordsMany, .ref a23, .ref a24, .ref a25, .ref a26, .ref a27, .ref a28])), (a4, .inl (g.2 1, 900, .inl mtape)), (a14, .inl (g.2 0, 225, .inl (u28.2.1 0)))] H := hP
    have hD : va_D A [(h0, .inr (12, [.int mthrown, .ref a1, .ref a2, .ref a3, .ref a4, .int mtaped, .ref a6, .int msize, .int (u28.1 1), .int (u28.1 2), .int (u28.1 3), .int (u28.1 4), .int (u28.1 5), .int (u28.1 6), .ref a14, .ref a15, .int mgoal, .int mgoalDays, .int mgoalHearer, .ref a19, .ref a20, .int mleastOrder, .int mwordsMany, .ref a23, .ref a24, .ref a25, .ref a26, .ref a27, .ref a28])), (a4, .inl (g.2 1, 900, .inl mtape)), (a14, .inl (g.2 0, 225, .inl (u28.2.1 0)))] := hD
    refine W.eq (g2 := F0 m 14 ls []) rfl ?_
    refine lv_goto (tgt := 21) hx hb dX12_readLine_14 (by decide) ?_
    refine lv_aload_n hx hb dX12_readLine_21 rfl (lv_at hl 0 rfl) ?_
    refine call_V (As := []) (rest := []) (wr := [(a4, .inl (g.2 1, 900, .inl mtape)), (a14, .inl (g.2 0, 225, .inl (u28.2.1 0)))]) FC hKn hZ (k_X12_good l g h0 a1 a2 a3 a4 a6 a14 a15 a19 a20 a23 a24 a25 a26 a27 a28 mthrown mtaped msize (u28.1 1) (u28.1 2) (u28.1 3) (u28.1 4) (u28.1 5) (u28.1 6) mgoal mgoalDays mgoalHearer mleastOrder mwordsMany (by omega) (by omega) (by omega) (by omega) (by omega) (by omega) (by omega) (by omega) (by omega)) m_yX12_good b_1117 (ci := 12) rfl rfl rfl hP hD hS hA [0] [1, 2] rfl (by decide) rfl (by decide) (by decide) rfl hl.1 rfl (Nat.le_of_ble_eq_true rfl) dX12_readLine_22 ⟨(Nat.le_of_ble_eq_true rfl), (Nat.le_of_ble_eq_true rfl)⟩ ⟨(Nat.le_of_ble_eq_true rfl), (Nat.le_of_ble_eq_true rfl)⟩ (fun u30 H locs q31 hP hD hS => ?_)
    obtain ⟨q31_0, q31_1⟩ := q31
    have hP : va_P g.1 vwCl [(a4, .inl (g.2 1, 900, .inl mtape)), (a14, .inl (g.2 0, 225, .inl (u28.2.1 0))), (h0, .inr (12, [.int mthrown, .ref a1, .ref a2, .ref a3, .ref a4, .int mtaped, .ref a6, .int msize, .int (u28.1 1), .int (u28.1 2), .int (u28.1 3), .int (u28.1 4), .int (u28.1 5), .int (u28.1 6), .ref a14, .ref a15, .int mgoal, .int mgoalDays, .int mgoalHearer, .ref a19, .ref a20, .int mleastOrder, .int mwordsMany, .ref a23, .ref a24, .ref a25, .ref a26, .ref a27, .ref a28]))] H := hP
    have hD : va_D A [(a4, .inl (g.2 1, 900, .inl mtape)), (a14, .inl (g.2 0, 225, .inl (u28.2.1 0))), (h0, .inr (12, [.int mthrown, .ref a1, .ref a2, .ref a3, .ref a4, .int mtaped, .ref a6, .int msize, .int (u28.1 1), .int (u28.1 2), .int (u28.1 3), .int (u28.1 4), .int (u28.1 5), .int (u28.1 6), .ref a14, .ref a15, .int mgoal, .int mgoalDays, .int mgoalHearer, .ref a19, .ref a20, .int mleastOrder, .int mwordsMany, .ref a23, .ref a24, .ref a25, .ref a26, .ref a27, .ref a28]))] := hD
    refine W.eq (g2 := F0 m 25 ls [.int (u30.1 0)]) rfl ?_
    rcases (show (u28.1 5).toInt = 0 ∨ (u28.1 5).toInt ≠ 0 by omega) with c32 | c32
    · skip
      refine tp_i (v := 1) (Int32.toInt_inj.mp (show (u30.1 0).toInt = (1 : Int32).toInt by rw [show (1 : Int32).toInt = 1 by decide]; omega)) ?_
      refine lv_if_eq (tgt := 41) hx hb dX12_readLine_25 (by decide) (fun h => absurd h (by decide)) (fun _ => ?_)
      refine lv_aload_n hx hb dX12_readLine_28 rfl (lv_at hl 0 rfl) ?_
      refine g_get (C := RX12) (T := TX12) (N := 29) (ci := 12) (v := .int (u28.1 3)) FC hKn hP i_X12 2 rfl rfl 10 (by decide) b_1114 rfl dX12_readLine_29 ?_
      refine lv_iconst (v := 3) hx hb dX12_readLine_32 (by decide) ?_
      refine lv_icmp_eq (tgt := 41) hx hb dX12_readLine_33 (by decide) (fun c33 => ?_) (fun c33 => ?_)
      · have c33 := k_eq (a := (u28.1 3).toInt) (b := 3) rfl (by decide) c33
        refine lv_aload_n hx hb dX12_readLine_41 rfl (lv_at hl 0 rfl) ?_
        refine call_V (As := []) (rest := []) (wr := [(a4, .inl (g.2 1, 900, .inl mtape)), (a14, .inl (g.2 0, 225, .inl (u28.2.1 0)))]) FC hKn hZ (k_X12_good l g h0 a1 a2 a3 a4 a6 a14 a15 a19 a20 a23 a24 a25 a26 a27 a28 mthrown mtaped msize (u28.1 1) (u28.1 2) (u28.1 3) (u28.1 4) (u28.1 5) (u28.1 6) mgoal mgoalDays mgoalHearer mleastOrder mwordsMany (by omega) (by omega) (by omega) (by omega) (by omega) (by omega) (by omega) (by omega) (by omega)) m_yX12_good b_1117 (ci := 12) rfl rfl rfl hP hD hS hA [2] [0, 1] rfl (by decide) rfl (by decide) (by decide) rfl hl.1 rfl (Nat.le_of_ble_eq_true rfl) dX12_readLine_42 ⟨(Nat.le_of_ble_eq_true rfl), (Nat.le_of_ble_eq_true rfl)⟩ ⟨(Nat.le_of_ble_eq_true rfl), (Nat.le_of_ble_eq_true rfl)⟩ (fun u34 H locs q35 hP hD hS => ?_)
        obtain ⟨q35_0, q35_1⟩ := q35
        have hP : va_P g.1 vwCl [(a4, .inl (g.2 1, 900, .inl mtape)), (a14, .inl (g.2 0, 225, .inl (u28.2.1 0))), (h0, .inr (12, [.int mthrown, .ref a1, .ref a2, .ref a3, .ref a4, .int mtaped, .ref a6, .int msize, .int (u28.1 1), .int (u28.1 2), .int (u28.1 3), .int (u28.1 4), .int (u28.1 5), .int (u28.1 6), .ref a14, .ref a15, .int mgoal, .int mgoalDays, .int mgoalHearer, .ref a19, .ref a20, .int mleastOrder, .int mwordsMany, .ref a23, .ref a24, .ref a25, .ref a26, .ref a27, .ref a28]))] H := hP
        have hD : va_D A [(a4, .inl (g.2 1, 900, .inl mtape)), (a14, .inl (g.2 0, 225, .inl (u28.2.1 0))), (h0, .inr (12, [.int mthrown, .ref a1, .ref a2, .ref a3, .ref a4, .int mtaped, .ref a6, .int msize, .int (u28.1 1), .int (u28.1 2), .int (u28.1 3), .int (u28.1 4), .int (u28.1 5), .int (u28.1 6), .ref a14, .ref a15, .int mgoal, .int mgoalDays, .int mgoalHearer, .ref a19, .ref a20, .int mleastOrder, .int mwordsMany, .ref a23, .ref a24, .ref a25, .ref a26, .ref a27, .ref a28]))] := hD
        refine W.eq (g2 := F0 m 45 ls [.int (u34.1 0)]) rfl ?_
        refine tp_i (v := 1) (Int32.toInt_inj.mp (show (u34.1 0).toInt = (1 : Int32).toInt by rw [show (1 : Int32).toInt = 1 by decide]; omega)) ?_
        refine lv_if_eq (tgt := 52) hx hb dX12_readLine_45 (by decide) (fun h => absurd h (by decide)) (fun _ => ?_)
        refine lv_aload_n hx hb dX12_readLine_48 rfl (lv_at hl 0 rfl) ?_
        refine call_V (As := []) (rest := []) (wr := [(a14, .inl (g.2 0, 225, .inl (u28.2.1 0)))]) FC hKn hZ (k_X12_advance l g h0 a1 a2 a3 a4 a6 a14 a15 a19 a20 a23 a24 a25 a26 a27 a28 mthrown mtaped msize (u28.1 1) (u28.1 2) (u28.1 3) (u28.1 4) (u28.1 5) (u28.1 6) mgoal mgoalDays mgoalHearer mleastOrder mwordsMany mtape (by omega) (by omega) (by omega) (by omega) (by omega) (by omega) (by omega) (by omega) (by omega)) m_yX12_advance b_1127 (ci := 12) rfl rfl rfl hP hD hS hA [2, 0] [1] rfl (by decide) rfl (by decide) (by decide) rfl hl.1 rfl (Nat.le_of_ble_eq_true rfl) dX12_readLine_49 ⟨(Nat.le_of_ble_eq_true rfl), (Nat.le_of_ble_eq_true rfl)⟩ ⟨(Nat.le_of_ble_eq_true rfl), (Nat.le_of_ble_eq_true rfl)⟩ (fun u36 H locs q37 hP hD hS => ?_)
        obtain ⟨q37_0, q37_1, q37_2, q37_3, q37_4, q37_5⟩ := q37
        have hP : va_P g.1 vwCl [(a14, .inl (g.2 0, 225, .inl (u28.2.1 0))), (h0, .inr (12, [.int mthrown, .ref a1, .ref a2, .ref a3, .ref a4, .int mtaped, .ref a6, .int msize, .int (u36.1 1), .int (u36.1 2), .int (u36.1 3), .int (u36.1 4), .int (u28.1 5), .int (u28.1 6), .ref a14, .ref a15, .int mgoal, .int mgoalDays, .int mgoalHearer, .ref a19, .ref a20, .int mleastOrder, .int mwordsMany, .ref a23, .ref a24, .ref a25, .ref a26, .ref a27, .ref a28])), (a4, .inl (g.2 1, 900, .inl mtape))] H := hP
        have hD : va_D A [(a14, .inl (g.2 0, 225, .inl (u28.2.1 0))), (h0, .inr (12, [.int mthrown, .ref a1, .ref a2, .ref a3, .ref a4, .int mtaped, .ref a6, .int msize, .int (u36.1 1), .int (u36.1 2), .int (u36.1 3), .int (u36.1 4), .int (u28.1 5), .int (u28.1 6), .ref a14, .ref a15, .int mgoal, .int mgoalDays, .int mgoalHearer, .ref a19, .ref a20, .int mleastOrder, .int mwordsMany, .ref a23, .ref a24, .ref a25, .ref a26, .ref a27, .ref a28])), (a4, .inl (g.2 1, 900, .inl mtape))] := hD
        refine W.eq (g2 := F0 m 52 ls []) rfl ?_
        refine lv_aload_n hx hb dX12_readLine_52 rfl (lv_at hl 0 rfl) ?_
        refine g_get (C := RX12) (T := TX12) (N := 29) (ci := 12) (v := .ref a14) FC hKn hP i_X12 1 rfl rfl 14 (by decide) b_1132 rfl dX12_readLine_53 ?_
        refine lv_bipush (v := 9) hx hb dX12_readLine_56 (by decide) ?_
        refine lv_dup2_11 hx hb dX12_readLine_58 rfl rfl ?_
        refine va_iald hx hb hKn.1 hP 0 0 rfl rfl (by unfold vp_in; decide) dX12_readLine_59 ?_
        refine lv_topi (fun z38 e_z38 => ?_)
        have q_z38 : z38.toInt = ((u28.2.1 0) 9).toInt := by rw [e_z38]; rfl
        refine lv_iconst (v := 1) hx hb dX12_readLine_60 (by decide) ?_
        refine lv_iadd hx hb dX12_readLine_61 ?_
        refine lv_topi (fun z39 e_z39 => ?_)
        refine va_iast hx hb hKn.1 hP hD hS 0 0 rfl rfl (by unfold vp_in; decide) dX12_readLine_62 (fun H locs hP hD hS => ?_)
        have hP : va_P g.1 vwCl [(a14, .inl (g.2 0, 225, .inl (upd (u28.2.1 0) ((9 : Int32).toNatClampNeg) z39))), (h0, .inr (12, [.int mthrown, .ref a1, .ref a2, .ref a3, .ref a4, .int mtaped, .ref a6, .int msize, .int (u36.1 1), .int (u36.1 2), .int (u36.1 3), .int (u36.1 4), .int (u28.1 5), .int (u28.1 6), .ref a14, .ref a15, .int mgoal, .int mgoalDays, .int mgoalHearer, .ref a19, .ref a20, .int mleastOrder, .int mwordsMany, .ref a23, .ref a24, .ref a25, .ref a26, .ref a27, .ref a28])), (a4, .inl (g.2 1, 900, .inl mtape))] H := hP
        have hD : va_D A [(a14, .inl (g.2 0, 225, .inl (upd (u28.2.1 0) ((9 : Int32).toNatClampNeg) z39))), (h0, .inr (12, [.int mthrown, .ref a1, .ref a2, .ref a3, .ref a4, .int mtaped, .ref a6, .int msize, .int (u36.1 1), .int (u36.1 2), .int (u36.1 3), .int (u36.1 4), .int (u28.1 5), .int (u28.1 6), .ref a14, .ref a15, .int mgoal, .int mgoalDays, .int mgoalHearer, .ref a19, .ref a20, .int mleastOrder, .int mwordsMany, .ref a23, .ref a24, .ref a25, .ref a26, .ref a27, .ref a28])), (a4, .inl (g.2 1, 900, .inl mtape))] := hD
        have a_f40 : wok (upd (u28.2.1 0) ((9 : Int32).toNatClampNeg) z39) := (wk_free (k := 9) q29_5 (by decide) (by decide))
        generalize E_f40 : (upd (u28.2.1 0) ((9 : Int32).toNatClampNeg) z39 : Nat → Int32) = f40 at hP hD a_f40
        have g_f40_0 : (f40 0).toInt = ((u28.2.1 0) 0).toInt := by rw [← E_f40]; exact congrArg Int32.toInt (uo (k := 9) (by decide))
        have g_f40_2 : (f40 2).toInt = ((u28.2.1 0) 2).toInt := by rw [← E_f40]; exact congrArg Int32.toInt (uo (k := 9) (by decide))
        have g_f40_5 : (f40 5).toInt = ((u28.2.1 0) 5).toInt := by rw [← E_f40]; exact congrArg Int32.toInt (uo (k := 9) (by decide))
        have g_f40_6 : (f40 6).toInt = ((u28.2.1 0) 6).toInt := by rw [← E_f40]; exact congrArg Int32.toInt (uo (k := 9) (by decide))
        have g_f40_7 : (f40 7).toInt = ((u28.2.1 0) 7).toInt := by rw [← E_f40]; exact congrArg Int32.toInt (uo (k := 9) (by decide))
        have g_f40_8 : (f40 8).toInt = ((u28.2.1 0) 8).toInt := by rw [← E_f40]; exact congrArg Int32.toInt (uo (k := 9) (by decide))
        have g_f40_9 : (f40 9).toInt = z39.toInt := by rw [← E_f40]; exact congrArg Int32.toInt (pk_us (k := 9))
        exact rt_v FX ((fun k => match k with | 0 => 0 | 1 => u36.1 1 | 2 => u36.1 2 | 3 => u36.1 3 | 4 => u36.1 4 | 5 => u28.1 5 | 6 => u28.1 6 | _ => 0), (fun k => match k with | 0 => f40 | _ => fun _ => 0), (fun _ => fun _ => 0)) rfl ⟨(show 0 ≤ (u36.1 1).toInt ∧ (u36.1 1).toInt ≤ 900 by omega), (show 0 ≤ (u36.1 2).toInt ∧ (u36.1 2).toInt ≤ 900 by omega), (show 0 ≤ (u36.1 3).toInt ∧ (u36.1 3).toInt ≤ 4 by omega), (show 0 ≤ (u36.1 4).toInt ∧ (u36.1 4).toInt ≤ 99999 by omega), (show 0 ≤ (u28.1 5).toInt ∧ (u28.1 5).toInt ≤ 3 by omega), a_f40, (show (u28.1 5).toInt = 0 → 1 ≤ ((f40) 0).toInt ∧ 1 ≤ ((f40) 2).toInt ∧ 5 * mat.toInt - mtoken.toInt < 5 * (u36.1 1).toInt - (u36.1 3).toInt from (fun h9 => by have h8 : (u28.1 5).toInt = 0 := h9; show 1 ≤ (f40 0).toInt ∧ 1 ≤ (f40 2).toInt ∧ 5 * mat.toInt - mtoken.toInt < 5 * (u36.1 1).toInt - (u36.1 3).toInt; omega))⟩ (hP.sub [1, 2, 0] rfl) (hD.sub [1, 2, 0] (by decide) rfl) hS (Nat.le_of_ble_eq_true rfl) (Nat.le_of_ble_eq_true rfl) dX12_readLine_63
      · have c33 := k_ne (a := (u28.1 3).toInt) (b := 3) rfl (by decide) c33
        refine lv_aload_n hx hb dX12_readLine_36 rfl (lv_at hl 0 rfl) ?_
        refine lv_iconst (v := 1) hx hb dX12_readLine_37 (by decide) ?_
        have kc1 : (1 : Int32).toInt = 1 := by decide
        refine call_V (As := [.int 1]) (rest := []) (wr := [(a4, .inl (g.2 1, 900, .inl mtape)), (a14, .inl (g.2 0, 225, .inl (u28.2.1 0)))]) FC hKn hZ (k_X12_errs l g h0 a1 a2 a3 a4 a6 a14 a15 a19 a20 a23 a24 a25 a26 a27 a28 mthrown mtaped msize (u28.1 1) (u28.1 2) (u28.1 3) (u28.1 4) (u28.1 5) (u28.1 6) mgoal mgoalDays mgoalHearer mleastOrder mwordsMany ((1 : Int32)) (by omega) (by omega) (by omega) (by omega) (by omega) (by omega) (by omega) (by omega) (by omega) (by omega)) m_yX12_errs b_1129 (ci := 12) rfl rfl rfl hP hD hS hA [2] [0, 1] rfl (by decide) rfl (by decide) (by decide) rfl hl.1 rfl (Nat.le_of_ble_eq_true rfl) dX12_readLine_38 ⟨(Nat.le_of_ble_eq_true rfl), (Nat.le_of_ble_eq_true rfl)⟩ ⟨(Nat.le_of_ble_eq_true rfl), (Nat.le_of_ble_eq_true rfl)⟩ (fun u41 H locs q42 hP hD hS => ?_)
        have q42_0 : 1 ≤ (u41.1 1).toInt ∧ (u41.1 1).toInt ≤ 3 := q42
        have hP : va_P g.1 vwCl [(a4, .inl (g.2 1, 900, .inl mtape)), (a14, .inl (g.2 0, 225, .inl (u28.2.1 0))), (h0, .inr (12, [.int mthrown, .ref a1, .ref a2, .ref a3, .ref a4, .int mtaped, .ref a6, .int msize, .int (u28.1 1), .int (u28.1 2), .int (u28.1 3), .int (u28.1 4), .int (u41.1 1), .int (u41.1 2), .ref a14, .ref a15, .int mgoal, .int mgoalDays, .int mgoalHearer, .ref a19, .ref a20, .int mleastOrder, .int mwordsMany, .ref a23, .ref a24, .ref a25, .ref a26, .ref a27, .ref a28]))] H := hP
        have hD : va_D A [(a4, .inl (g.2 1, 900, .inl mtape)), (a14, .inl (g.2 0, 225, .inl (u28.2.1 0))), (h0, .inr (12, [.int mthrown, .ref a1, .ref a2, .ref a3, .ref a4, .int mtaped, .ref a6, .int msize, .int (u28.1 1), .int (u28.1 2), .int (u28.1 3), .int (u28.1 4), .int (u41.1 1), .int (u41.1 2), .ref a14, .ref a15, .int mgoal, .int mgoalDays, .int mgoalHearer, .ref a19, .ref a20, .int mleastOrder, .int mwordsMany, .ref a23, .ref a24, .ref a25, .ref a26, .ref a27, .ref a28]))] := hD
        refine W.eq (g2 := F0 m 41 ls []) rfl ?_
        refine lv_aload_n hx hb dX12_readLine_41 rfl (lv_at hl 0 rfl) ?_
        refine call_V (As := []) (rest := []) (wr := [(a4, .inl (g.2 1, 900, .inl mtape)), (a14, .inl (g.2 0, 225, .inl (u28.2.1 0)))]) FC hKn hZ (k_X12_good l g h0 a1 a2 a3 a4 a6 a14 a15 a19 a20 a23 a24 a25 a26 a27 a28 mthrown mtaped msize (u28.1 1) (u28.1 2) (u28.1 3) (u28.1 4) (u41.1 1) (u41.1 2) mgoal mgoalDays mgoalHearer mleastOrder mwordsMany (by omega) (by omega) (by omega) (by omega) (by omega) (by omega) (by omega) (by omega) (by omega)) m_yX12_good b_1117 (ci := 12) rfl rfl rfl hP hD hS hA [2] [0, 1] rfl (by decide) rfl (by decide) (by decide) rfl hl.1 rfl (Nat.le_of_ble_eq_true rfl) dX12_readLine_42 ⟨(Nat.le_of_ble_eq_true rfl), (Nat.le_of_ble_eq_true rfl)⟩ ⟨(Nat.le_of_ble_eq_true rfl), (Nat.le_of_ble_eq_true rfl)⟩ (fun u43 H locs q44 hP hD hS => ?_)
        obtain ⟨q44_0, q44_1⟩ := q44
        have hP : va_P g.1 vwCl [(a4, .inl (g.2 1, 900, .inl mtape)), (a14, .inl (g.2 0, 225, .inl (u28.2.1 0))), (h0, .inr (12, [.int mthrown, .ref a1, .ref a2, .ref a3, .ref a4, .int mtaped, .ref a6, .int msize, .int (u28.1 1), .int (u28.1 2), .int (u28.1 3), .int (u28.1 4), .int (u41.1 1), .int (u41.1 2), .ref a14, .ref a15, .int mgoal, .int mgoalDays, .int mgoalHearer, .ref a19, .ref a20, .int mleastOrder, .int mwordsMany, .ref a23, .ref a24, .ref a25, .ref a26, .ref a27, .ref a28]))] H := hP
        have hD : va_D A [(a4, .inl (g.2 1, 900, .inl mtape)), (a14, .inl (g.2 0, 225, .inl (u28.2.1 0))), (h0, .inr (12, [.int mthrown, .ref a1, .ref a2, .ref a3, .ref a4, .int mtaped, .ref a6, .int msize, .int (u28.1 1), .int (u28.1 2), .int (u28.1 3), .int (u28.1 4), .int (u41.1 1), .int (u41.1 2), .ref a14, .ref a15, .int mgoal, .int mgoalDays, .int mgoalHearer, .ref a19, .ref a20, .int mleastOrder, .int mwordsMany, .ref a23, .ref a24, .ref a25, .ref a26, .ref a27, .ref a28]))] := hD
        refine W.eq (g2 := F0 m 45 ls [.int (u43.1 0)]) rfl ?_
        refine tp_i (v := 0) (Int32.toInt_inj.mp (show (u43.1 0).toInt = (0 : Int32).toInt by rw [show (0 : Int32).toInt = 0 by decide]; omega)) ?_
        refine lv_if_eq (tgt := 52) hx hb dX12_readLine_45 (by decide) (fun _ => ?_) (fun h => absurd h (by decide))
        refine lv_aload_n hx hb dX12_readLine_52 rfl (lv_at hl 0 rfl) ?_
        refine g_get (C := RX12) (T := TX12) (N := 29) (ci := 12) (v := .ref a14) FC hKn hP i_X12 2 rfl rfl 14 (by decide) b_1132 rfl dX12_readLine_53 ?_
        refine lv_bipush (v := 9) hx hb dX12_readLine_56 (by decide) ?_
        refine lv_dup2_11 hx hb dX12_readLine_58 rfl rfl ?_
        refine va_iald hx hb hKn.1 hP 1 0 rfl rfl (by unfold vp_in; decide) dX12_readLine_59 ?_
        refine lv_topi (fun z45 e_z45 => ?_)
        have q_z45 : z45.toInt = ((u28.2.1 0) 9).toInt := by rw [e_z45]; rfl
        refine lv_iconst (v := 1) hx hb dX12_readLine_60 (by decide) ?_
        refine lv_iadd hx hb dX12_readLine_61 ?_
        refine lv_topi (fun z46 e_z46 => ?_)
        refine va_iast hx hb hKn.1 hP hD hS 1 0 rfl rfl (by unfold vp_in; decide) dX12_readLine_62 (fun H locs hP hD hS => ?_)
        have hP : va_P g.1 vwCl [(a4, .inl (g.2 1, 900, .inl mtape)), (a14, .inl (g.2 0, 225, .inl (upd (u28.2.1 0) ((9 : Int32).toNatClampNeg) z46))), (h0, .inr (12, [.int mthrown, .ref a1, .ref a2, .ref a3, .ref a4, .int mtaped, .ref a6, .int msize, .int (u28.1 1), .int (u28.1 2), .int (u28.1 3), .int (u28.1 4), .int (u41.1 1), .int (u41.1 2), .ref a14, .ref a15, .int mgoal, .int mgoalDays, .int mgoalHearer, .ref a19, .ref a20, .int mleastOrder, .int mwordsMany, .ref a23, .ref a24, .ref a25, .ref a26, .ref a27, .ref a28]))] H := hP
        have hD : va_D A [(a4, .inl (g.2 1, 900, .inl mtape)), (a14, .inl (g.2 0, 225, .inl (upd (u28.2.1 0) ((9 : Int32).toNatClampNeg) z46))), (h0, .inr (12, [.int mthrown, .ref a1, .ref a2, .ref a3, .ref a4, .int mtaped, .ref a6, .int msize, .int (u28.1 1), .int (u28.1 2), .int (u28.1 3), .int (u28.1 4), .int (u41.1 1), .int (u41.1 2), .ref a14, .ref a15, .int mgoal, .int mgoalDays, .int mgoalHearer, .ref a19, .ref a20, .int mleastOrder, .int mwordsMany, .ref a23, .ref a24, .ref a25, .ref a26, .ref a27, .ref a28]))] := hD
        have a_f47 : wok (upd (u28.2.1 0) ((9 : Int32).toNatClampNeg) z46) := (wk_free (k := 9) q29_5 (by decide) (by decide))
        generalize E_f47 : (upd (u28.2.1 0) ((9 : Int32).toNatClampNeg) z46 : Nat → Int32) = f47 at hP hD a_f47
        have g_f47_0 : (f47 0).toInt = ((u28.2.1 0) 0).toInt := by rw [← E_f47]; exact congrArg Int32.toInt (uo (k := 9) (by decide))
        have g_f47_2 : (f47 2).toInt = ((u28.2.1 0) 2).toInt := by rw [← E_f47]; exact congrArg Int32.toInt (uo (k := 9) (by decide))
        have g_f47_5 : (f47 5).toInt = ((u28.2.1 0) 5).toInt := by rw [← E_f47]; exact congrArg Int32.toInt (uo (k := 9) (by decide))
        have g_f47_6 : (f47 6).toInt = ((u28.2.1 0) 6).toInt := by rw [← E_f47]; exact congrArg Int32.toInt (uo (k := 9) (by decide))
        have g_f47_7 : (f47 7).toInt = ((u28.2.1 0) 7).toInt := by rw [← E_f47]; exact congrArg Int32.toInt (uo (k := 9) (by decide))
        have g_f47_8 : (f47 8).toInt = ((u28.2.1 0) 8).toInt := by rw [← E_f47]; exact congrArg Int32.toInt (uo (k := 9) (by decide))
        have g_f47_9 : (f47 9).toInt = z46.toInt := by rw [← E_f47]; exact congrArg Int32.toInt (pk_us (k := 9))
        exact rt_v FX ((fun k => match k with | 0 => 0 | 1 => u28.1 1 | 2 => u28.1 2 | 3 => u28.1 3 | 4 => u28.1 4 | 5 => u41.1 1 | 6 => u41.1 2 | _ => 0), (fun k => match k with | 0 => f47 | _ => fun _ => 0), (fun _ => fun _ => 0)) rfl ⟨(show 0 ≤ (u28.1 1).toInt ∧ (u28.1 1).toInt ≤ 900 by omega), (show 0 ≤ (u28.1 2).toInt ∧ (u28.1 2).toInt ≤ 900 by omega), (show 0 ≤ (u28.1 3).toInt ∧ (u28.1 3).toInt ≤ 4 by omega), (show 0 ≤ (u28.1 4).toInt ∧ (u28.1 4).toInt ≤ 99999 by omega), (show 0 ≤ (u41.1 1).toInt ∧ (u41.1 1).toInt ≤ 3 by omega), a_f47, (show (u41.1 1).toInt = 0 → 1 ≤ ((f47) 0).toInt ∧ 1 ≤ ((f47) 2).toInt ∧ 5 * mat.toInt - mtoken.toInt < 5 * (u28.1 1).toInt - (u28.1 3).toInt from (fun h9 => by have h8 : (u41.1 1).toInt = 0 := h9; show 1 ≤ (f47 0).toInt ∧ 1 ≤ (f47 2).toInt ∧ 5 * mat.toInt - mtoken.toInt < 5 * (u28.1 1).toInt - (u28.1 3).toInt; omega))⟩ (hP.sub [2, 0, 1] rfl) (hD.sub [2, 0, 1] (by decide) rfl) hS (Nat.le_of_ble_eq_true rfl) (Nat.le_of_ble_eq_true rfl) dX12_readLine_63
    · skip
      refine tp_i (v := 0) (Int32.toInt_inj.mp (show (u30.1 0).toInt = (0 : Int32).toInt by rw [show (0 : Int32).toInt = 0 by decide]; omega)) ?_
      refine lv_if_eq (tgt := 41) hx hb dX12_readLine_25 (by decide) (fun _ => ?_) (fun h => absurd h (by decide))
      refine lv_aload_n hx hb dX12_readLine_41 rfl (lv_at hl 0 rfl) ?_
      refine call_V (As := []) (rest := []) (wr := [(a4, .inl (g.2 1, 900, .inl mtape)), (a14, .inl (g.2 0, 225, .inl (u28.2.1 0)))]) FC hKn hZ (k_X12_good l g h0 a1 a2 a3 a4 a6 a14 a15 a19 a20 a23 a24 a25 a26 a27 a28 mthrown mtaped msize (u28.1 1) (u28.1 2) (u28.1 3) (u28.1 4) (u28.1 5) (u28.1 6) mgoal mgoalDays mgoalHearer mleastOrder mwordsMany (by omega) (by omega) (by omega) (by omega) (by omega) (by omega) (by omega) (by omega) (by omega)) m_yX12_good b_1117 (ci := 12) rfl rfl rfl hP hD hS hA [2] [0, 1] rfl (by decide) rfl (by decide) (by decide) rfl hl.1 rfl (Nat.le_of_ble_eq_true rfl) dX12_readLine_42 ⟨(Nat.le_of_ble_eq_true rfl), (Nat.le_of_ble_eq_true rfl)⟩ ⟨(Nat.le_of_ble_eq_true rfl), (Nat.le_of_ble_eq_true rfl)⟩ (fun u48 H locs q49 hP hD hS => ?_)
      obtain ⟨q49_0, q49_1⟩ := q49
      have hP : va_P g.1 vwCl [(a4, .inl (g.2 1, 900, .inl mtape)), (a14, .inl (g.2 0, 225, .inl (u28.2.1 0))), (h0, .inr (12, [.int mthrown, .ref a1, .ref a2, .ref a3, .ref a4, .int mtaped, .ref a6, .int msize, .int (u28.1 1), .int (u28.1 2), .int (u28.1 3), .int (u28.1 4), .int (u28.1 5), .int (u28.1 6), .ref a14, .ref a15, .int mgoal, .int mgoalDays, .int mgoalHearer, .ref a19, .ref a20, .int mleastOrder, .int mwordsMany, .ref a23, .ref a24, .ref a25, .ref a26, .ref a27, .ref a28]))] H := hP
      have hD : va_D A [(a4, .inl (g.2 1, 900, .inl mtape)), (a14, .inl (g.2 0, 225, .inl (u28.2.1 0))), (h0, .inr (12, [.int mthrown, .ref a1, .ref a2, .ref a3, .ref a4, .int mtaped, .ref a6, .int msize, .int (u28.1 1), .int (u28.1 2), .int (u28.1 3), .int (u28.1 4), .int (u28.1 5), .int (u28.1 6), .ref a14, .ref a15, .int mgoal, .int mgoalDays, .int mgoalHearer, .ref a19, .ref a20, .int mleastOrder, .int mwordsMany, .ref a23, .ref a24, .ref a25, .ref a26, .ref a27, .ref a28]))] := hD
      refine W.eq (g2 := F0 m 45 ls [.int (u48.1 0)]) rfl ?_
      refine tp_i (v := 0) (Int32.toInt_inj.mp (show (u48.1 0).toInt = (0 : Int32).toInt by rw [show (0 : Int32).toInt = 0 by decide]; omega)) ?_
      refine lv_if_eq (tgt := 52) hx hb dX12_readLine_45 (by decide) (fun _ => ?_) (fun h => absurd h (by decide))
      refine lv_aload_n hx hb dX12_readLine_52 rfl (lv_at hl 0 rfl) ?_
      refine g_get (C := RX12) (T := TX12) (N := 29) (ci := 12) (v := .ref a14) FC hKn hP i_X12 2 rfl rfl 14 (by decide) b_1132 rfl dX12_readLine_53 ?_
      refine lv_bipush (v := 9) hx hb dX12_readLine_56 (by decide) ?_
      refine lv_dup2_11 hx hb dX12_readLine_58 rfl rfl ?_
      refine va_iald hx hb hKn.1 hP 1 0 rfl rfl (by unfold vp_in; decide) dX12_readLine_59 ?_
      refine lv_topi (fun z50 e_z50 => ?_)
      have q_z50 : z50.toInt = ((u28.2.1 0) 9).toInt := by rw [e_z50]; rfl
      refine lv_iconst (v := 1) hx hb dX12_readLine_60 (by decide) ?_
      refine lv_iadd hx hb dX12_readLine_61 ?_
      refine lv_topi (fun z51 e_z51 => ?_)
      refine va_iast hx hb hKn.1 hP hD hS 1 0 rfl rfl (by unfold vp_in; decide) dX12_readLine_62 (fun H locs hP hD hS => ?_)
      have hP : va_P g.1 vwCl [(a4, .inl (g.2 1, 900, .inl mtape)), (a14, .inl (g.2 0, 225, .inl (upd (u28.2.1 0) ((9 : Int32).toNatClampNeg) z51))), (h0, .inr (12, [.int mthrown, .ref a1, .ref a2, .ref a3, .ref a4, .int mtaped, .ref a6, .int msize, .int (u28.1 1), .int (u28.1 2), .int (u28.1 3), .int (u28.1 4), .int (u28.1 5), .int (u28.1 6), .ref a14, .ref a15, .int mgoal, .int mgoalDays, .int mgoalHearer, .ref a19, .ref a20, .int mleastOrder, .int mwordsMany, .ref a23, .ref a24, .ref a25, .ref a26, .ref a27, .ref a28]))] H := hP
      have hD : va_D A [(a4, .inl (g.2 1, 900, .inl mtape)), (a14, .inl (g.2 0, 225, .inl (upd (u28.2.1 0) ((9 : Int32).toNatClampNeg) z51))), (h0, .inr (12, [.int mthrown, .ref a1, .ref a2, .ref a3, .ref a4, .int mtaped, .ref a6, .int msize, .int (u28.1 1), .int (u28.1 2), .int (u28.1 3), .int (u28.1 4), .int (u28.1 5), .int (u28.1 6), .ref a14, .ref a15, .int mgoal, .int mgoalDays, .int mgoalHearer, .ref a19, .ref a20, .int mleastOrder, .int mwordsMany, .ref a23, .ref a24, .ref a25, .ref a26, .ref a27, .ref a28]))] := hD
      have a_f52 : wok (upd (u28.2.1 0) ((9 : Int32).toNatClampNeg) z51) := (wk_free (k := 9) q29_5 (by decide) (by decide))
      generalize E_f52 : (upd (u28.2.1 0) ((9 : Int32).toNatClampNeg) z51 : Nat → Int32) = f52 at hP hD a_f52
      have g_f52_0 : (f52 0).toInt = ((u28.2.1 0) 0).toInt := by rw [← E_f52]; exact congrArg Int32.toInt (uo (k := 9) (by decide))
      have g_f52_2 : (f52 2).toInt = ((u28.2.1 0) 2).toInt := by rw [← E_f52]; exact congrArg Int32.toInt (uo (k := 9) (by decide))
      have g_f52_5 : (f52 5).toInt = ((u28.2.1 0) 5).toInt := by rw [← E_f52]; exact congrArg Int32.toInt (uo (k := 9) (by decide))
      have g_f52_6 : (f52 6).toInt = ((u28.2.1 0) 6).toInt := by rw [← E_f52]; exact congrArg Int32.toInt (uo (k := 9) (by decide))
      have g_f52_7 : (f52 7).toInt = ((u28.2.1 0) 7).toInt := by rw [← E_f52]; exact congrArg Int32.toInt (uo (k := 9) (by decide))
      have g_f52_8 : (f52 8).toInt = ((u28.2.1 0) 8).toInt := by rw [← E_f52]; exact congrArg Int32.toInt (uo (k := 9) (by decide))
      have g_f52_9 : (f52 9).toInt = z51.toInt := by rw [← E_f52]; exact congrArg Int32.toInt (pk_us (k := 9))
      exact rt_v FX ((fun k => match k with | 0 => 0 | 1 => u28.1 1 | 2 => u28.1 2 | 3 => u28.1 3 | 4 => u28.1 4 | 5 => u28.1 5 | 6 => u28.1 6 | _ => 0), (fun k => match k with | 0 => f52 | _ => fun _ => 0), (fun _ => fun _ => 0)) rfl ⟨(show 0 ≤ (u28.1 1).toInt ∧ (u28.1 1).toInt ≤ 900 by omega), (show 0 ≤ (u28.1 2).toInt ∧ (u28.1 2).toInt ≤ 900 by omega), (show 0 ≤ (u28.1 3).toInt ∧ (u28.1 3).toInt ≤ 4 by omega), (show 0 ≤ (u28.1 4).toInt ∧ (u28.1 4).toInt ≤ 99999 by omega), (show 0 ≤ (u28.1 5).toInt ∧ (u28.1 5).toInt ≤ 3 by omega), a_f52, (show (u28.1 5).toInt = 0 → 1 ≤ ((f52) 0).toInt ∧ 1 ≤ ((f52) 2).toInt ∧ 5 * mat.toInt - mtoken.toInt < 5 * (u28.1 1).toInt - (u28.1 3).toInt from (fun h9 => by have h8 : (u28.1 5).toInt = 0 := h9; show 1 ≤ (f52 0).toInt ∧ 1 ≤ (f52 2).toInt ∧ 5 * mat.toInt - mtoken.toInt < 5 * (u28.1 1).toInt - (u28.1 3).toInt; omega))⟩ (hP.sub [2, 0, 1] rfl) (hD.sub [2, 0, 1] (by decide) rfl) hS (Nat.le_of_ble_eq_true rfl) (Nat.le_of_ble_eq_true rfl) dX12_readLine_63
