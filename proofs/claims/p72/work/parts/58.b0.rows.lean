set_option maxRecDepth 100000 in
set_option maxHeartbeats 4000000 in
theorem k_X12_believes (l : Launch) (g : GG) (h0 : Nat) (a1 : Nat) (a2 : Nat) (a3 : Nat) (a4 : Nat) (a6 : Nat) (a14 : Nat) (a15 : Nat) (a19 : Nat) (a20 : Nat) (a23 : Nat) (a24 : Nat) (a25 : Nat) (a26 : Nat) (a27 : Nat) (a28 : Nat) (mthrown : Int32) (mtaped : Int32) (msize : Int32) (mat : Int32) (mfrom : Int32) (mtoken : Int32) (mvalue : Int32) (mfaultKind : Int32) (mfaultPlace : Int32) (mgoal : Int32) (mgoalDays : Int32) (mgoalHearer : Int32) (mleastOrder : Int32) (mwordsMany : Int32) (mworld : Nat → Int32) (mnumbers : Nat → Int64) (mmany : Nat → Int32) (p1 : Int32) (i_mtaped : 0 ≤ mtaped.toInt ∧ mtaped.toInt ≤ 900) (i_msize : 0 ≤ msize.toInt ∧ msize.toInt ≤ 900) (i_mat : 0 ≤ mat.toInt ∧ mat.toInt ≤ 900) (i_mfrom : 0 ≤ mfrom.toInt ∧ mfrom.toInt ≤ 900) (i_mtoken : 0 ≤ mtoken.toInt ∧ mtoken.toInt ≤ 4) (i_mvalue : 0 ≤ mvalue.toInt ∧ mvalue.toInt ≤ 99999) (i_mgoalHearer : 0 ≤ mgoalHearer.toInt ∧ mgoalHearer.toInt ≤ 3) (i_mwordsMany : 0 ≤ mwordsMany.toInt ∧ mwordsMany.toInt ≤ 10) (i_mworld : wod mworld) (i_mmany : ab mmany 4 (-1) 60) : Ct l g yX12_believes cX12_believes 5 (some .int) { frames := 4, cells := 0, slots := 0, locals := 92 } [.ref h0, .int p1] [(h0, .inr (12, [.int mthrown, .ref a1, .ref a2, .ref a3, .ref a4, .int mtaped, .ref a6, .int msize, .int mat, .int mfrom, .int mtoken, .int mvalue, .int mfaultKind, .int mfaultPlace, .ref a14, .ref a15, .int mgoal, .int mgoalDays, .int mgoalHearer, .ref a19, .ref a20, .int mleastOrder, .int mwordsMany, .ref a23, .ref a24, .ref a25, .ref a26, .ref a27, .ref a28])), (a1, .inl (g.2 0, 225, .inl mworld)), (a27, .inl (g.2 3, 240, .inr (.inl mnumbers))), (a25, .inl (g.2 0, 4, .inl mmany))] (S := (Nat → Int32) × (Nat → Nat → Int32) × (Nat → Nat → Int64)) (fun u => some (.int (u.1 0))) (fun u => True) (fun u => [(h0, .inr (12, [.int mthrown, .ref a1, .ref a2, .ref a3, .ref a4, .int mtaped, .ref a6, .int msize, .int mat, .int mfrom, .int mtoken, .int mvalue, .int mfaultKind, .int mfaultPlace, .ref a14, .ref a15, .int mgoal, .int mgoalDays, .int mgoalHearer, .ref a19, .ref a20, .int mleastOrder, .int mwordsMany, .ref a23, .ref a24, .ref a25, .ref a26, .ref a27, .ref a28])), (a1, .inl (g.2 0, 225, .inl mworld)), (a27, .inl (g.2 3, 240, .inr (.inl mnumbers))), (a25, .inl (g.2 0, 4, .inl mmany))]) := by
  refine Ct.of (by decide) (Nat.le_of_ble_eq_true rfl) ?_
  intro p e s m below meth c A ls FX hP hD hS hl
  obtain ⟨FC, hr, hlk, hKn, hA, hnm, hZ⟩ := id FX
  have FC : CallFix p m c cX12_believes 5 s _ BIG RX12 := FC
  obtain ⟨hx, hb, hml, hown, hB⟩ := id FC
  have hl : lv_has ls 5 [(0, .ref h0), (1, .int p1)] := hl
  refine lv_aload_n hx hb dX12_believes_0 rfl (lv_at hl 0 rfl) ?_
  refine lv_iload_n hx hb dX12_believes_1 rfl (lv_at hl 1 rfl) ?_
  refine lv_iconst (v := 1) hx hb dX12_believes_2 (by decide) ?_
  have kc1 : (1 : Int32).toInt = 1 := by decide
  refine call_V (As := [.int p1, .int 1]) (rest := []) (wr := []) FC hKn hZ (k_X12_asksWeek l g h0 a1 a2 a3 a4 a6 a14 a15 a19 a20 a23 a24 a25 a26 a27 a28 mthrown mtaped msize mat mfrom mtoken mvalue mfaultKind mfaultPlace mgoal mgoalDays mgoalHearer mleastOrder mwordsMany mworld mnumbers mmany p1 ((1 : Int32)) (by omega) (by omega) (by omega) (by omega) (by omega) (by omega) (by omega) (by omega) i_mworld i_mmany (by omega)) m_yX12_asksWeek b_940 (ci := 12) rfl rfl rfl hP hD hS hA [0, 1, 2, 3] [] rfl (by decide) rfl (by decide) (by decide) rfl hl.1 rfl (Nat.le_of_ble_eq_true rfl) dX12_believes_3 ⟨(Nat.le_of_ble_eq_true rfl), (Nat.le_of_ble_eq_true rfl)⟩ ⟨(Nat.le_of_ble_eq_true rfl), (Nat.le_of_ble_eq_true rfl)⟩ (fun u1 H locs q2 hP hD hS => ?_)
  obtain ⟨q2_0, q2_1, q2_2⟩ := q2
  have hP : va_P g.1 vwCl [(h0, .inr (12, [.int mthrown, .ref a1, .ref a2, .ref a3, .ref a4, .int mtaped, .ref a6, .int msize, .int mat, .int mfrom, .int mtoken, .int mvalue, .int mfaultKind, .int mfaultPlace, .ref a14, .ref a15, .int mgoal, .int mgoalDays, .int mgoalHearer, .ref a19, .ref a20, .int mleastOrder, .int mwordsMany, .ref a23, .ref a24, .ref a25, .ref a26, .ref a27, .ref a28])), (a1, .inl (g.2 0, 225, .inl mworld)), (a27, .inl (g.2 3, 240, .inr (.inl mnumbers))), (a25, .inl (g.2 0, 4, .inl mmany))] H := hP
  have hD : va_D A [(h0, .inr (12, [.int mthrown, .ref a1, .ref a2, .ref a3, .ref a4, .int mtaped, .ref a6, .int msize, .int mat, .int mfrom, .int mtoken, .int mvalue, .int mfaultKind, .int mfaultPlace, .ref a14, .ref a15, .int mgoal, .int mgoalDays, .int mgoalHearer, .ref a19, .ref a20, .int mleastOrder, .int mwordsMany, .ref a23, .ref a24, .ref a25, .ref a26, .ref a27, .ref a28])), (a1, .inl (g.2 0, 225, .inl mworld)), (a27, .inl (g.2 3, 240, .inr (.inl mnumbers))), (a25, .inl (g.2 0, 4, .inl mmany))] := hD
  refine W.eq (g2 := F0 m 6 ls [.int (u1.1 0)]) rfl ?_
  rcases (show (u1.1 0).toInt < 0 ∨ (u1.1 0).toInt = 0 by omega) with c3 | c3
  · skip
    refine lv_istore_n (lv' := [(2, .int (u1.1 0)), (0, .ref h0), (1, .int p1)]) hx hb dX12_believes_6 rfl hl (by decide) rfl (fun ls hl => ?_)
    refine lv_iload_n hx hb dX12_believes_7 rfl (lv_at hl 0 rfl) ?_
    refine lv_if_ge (tgt := 13) hx hb dX12_believes_8 (by decide) (fun c4 => ?_) (fun c4 => ?_)
    · have c4 := k_le (a := 0) (b := (u1.1 0).toInt) (by decide) rfl c4
      exfalso; omega
    · have c4 := k_nle (a := 0) (b := (u1.1 0).toInt) (by decide) rfl c4
      refine lv_iload_n hx hb dX12_believes_11 rfl (lv_at hl 0 rfl) ?_
      exact rt_i FX ((fun k => match k with | 0 => u1.1 0 | _ => 0), (fun _ => fun _ => 0), (fun _ => fun _ => 0)) rfl trivial (hP.sub [0, 1, 2, 3] rfl) (hD.sub [0, 1, 2, 3] (by decide) rfl) hS (Nat.le_of_ble_eq_true rfl) (Nat.le_of_ble_eq_true rfl) dX12_believes_12
  · have hw5 := q2_1 c3
    have hw5b := hw5.2.1
    have hw5a := hw5.1
    refine lv_istore_n (lv' := [(2, .int (u1.1 0)), (0, .ref h0), (1, .int p1)]) hx hb dX12_believes_6 rfl hl (by decide) rfl (fun ls hl => ?_)
    refine lv_iload_n hx hb dX12_believes_7 rfl (lv_at hl 0 rfl) ?_
    refine lv_if_ge (tgt := 13) hx hb dX12_believes_8 (by decide) (fun c6 => ?_) (fun c6 => ?_)
    · have c6 := k_le (a := 0) (b := (u1.1 0).toInt) (by decide) rfl c6
      refine lv_aload_n hx hb dX12_believes_13 rfl (lv_at hl 1 rfl) ?_
      refine call_V (As := []) (rest := []) (wr := [(a27, .inl (g.2 3, 240, .inr (.inl mnumbers))), (a25, .inl (g.2 0, 4, .inl mmany))]) FC hKn hZ (k_X12_allStates l g h0 a1 a2 a3 a4 a6 a14 a15 a19 a20 a23 a24 a25 a26 a27 a28 mthrown mtaped msize mat mfrom mtoken mvalue mfaultKind mfaultPlace mgoal mgoalDays mgoalHearer mleastOrder mwordsMany mworld (by omega) (by omega) (by omega) (by omega) (by omega) (by omega) (by omega) (by omega) i_mworld) m_yX12_allStates b_806 (ci := 12) rfl rfl rfl hP hD hS hA [0, 1] [2, 3] rfl (by decide) rfl (by decide) (by decide) rfl hl.1 rfl (Nat.le_of_ble_eq_true rfl) dX12_believes_14 ⟨(Nat.le_of_ble_eq_true rfl), (Nat.le_of_ble_eq_true rfl)⟩ ⟨(Nat.le_of_ble_eq_true rfl), (Nat.le_of_ble_eq_true rfl)⟩ (fun u7 H locs q8 hP hD hS => ?_)
      obtain ⟨q8_0, q8_1, q8_2⟩ := q8
      have hP : va_P g.1 vwCl [(a27, .inl (g.2 3, 240, .inr (.inl mnumbers))), (a25, .inl (g.2 0, 4, .inl mmany)), (h0, .inr (12, [.int mthrown, .ref a1, .ref a2, .ref a3, .ref a4, .int mtaped, .ref a6, .int msize, .int mat, .int mfrom, .int mtoken, .int mvalue, .int mfaultKind, .int mfaultPlace, .ref a14, .ref a15, .int mgoal, .int mgoalDays, .int mgoalHearer, .ref a19, .ref a20, .int mleastOrder, .int mwordsMany, .ref a23, .ref a24, .ref a25, .ref a26, .ref a27, .ref a28])), (a1, .inl (g.2 0, 225, .inl mworld))] H := hP
      have hD : va_D A [(a27, .inl (g.2 3, 240, .inr (.inl mnumbers))), (a25, .inl (g.2 0, 4, .inl mmany)), (h0, .inr (12, [.int mthrown, .ref a1, .ref a2, .ref a3, .ref a4, .int mtaped, .ref a6, .int msize, .int mat, .int mfrom, .int mtoken, .int mvalue, .int mfaultKind, .int mfaultPlace, .ref a14, .ref a15, .int mgoal, .int mgoalDays, .int mgoalHearer, .ref a19, .ref a20, .int mleastOrder, .int mwordsMany, .ref a23, .ref a24, .ref a25, .ref a26, .ref a27, .ref a28])), (a1, .inl (g.2 0, 225, .inl mworld))] := hD
      refine W.eq (g2 := F0 m 17 ls [.int (u7.1 0)]) rfl ?_
      rw [q8_1] at q8_0
      rw [q8_1] at q8_2
      refine tp_i (v := asF mworld) q8_1 ?_
      refine lv_istore_n (lv' := [(3, .int (asF mworld)), (2, .int (u1.1 0)), (0, .ref h0), (1, .int p1)]) hx hb dX12_believes_17 rfl hl (by decide) rfl (fun ls hl => ?_)
      refine lv_iconst (v := 0) hx hb dX12_believes_18 (by decide) ?_
      refine lv_istore (lv' := [(4, .int 0), (3, .int (asF mworld)), (2, .int (u1.1 0)), (0, .ref h0), (1, .int p1)]) hx hb dX12_believes_19 hl (by decide) rfl (fun ls hl => ?_)
      have lp80 : ∀ (n82 : Nat) (x78 : Int32) (x79 : Int32) (H : Heap) (locs : List Loc) (ls : Array Slot), 0 ≤ x78.toInt ∧ x78.toInt ≤ 10 → 1 ≤ x79.toInt ∧ x79.toInt ≤ 255 → (10 - x78.toInt).toNat < n82 → va_P g.1 vwCl [(a27, .inl (g.2 3, 240, .inr (.inl mnumbers))), (a25, .inl (g.2 0, 4, .inl mmany)), (h0, .inr (12, [.int mthrown, .ref a1, .ref a2, .ref a3, .ref a4, .int mtaped, .ref a6, .int msize, .int mat, .int mfrom, .int mtoken, .int mvalue, .int mfaultKind, .int mfaultPlace, .ref a14, .ref a15, .int mgoal, .int mgoalDays, .int mgoalHearer, .ref a19, .ref a20, .int mleastOrder, .int mwordsMany, .ref a23, .ref a24, .ref a25, .ref a26, .ref a27, .ref a28])), (a1, .inl (g.2 0, 225, .inl mworld))] H → va_D A [(a27, .inl (g.2 3, 240, .inr (.inl mnumbers))), (a25, .inl (g.2 0, 4, .inl mmany)), (h0, .inr (12, [.int mthrown, .ref a1, .ref a2, .ref a3, .ref a4, .int mtaped, .ref a6, .int msize, .int mat, .int mfrom, .int mtoken, .int mvalue, .int mfaultKind, .int mfaultPlace, .ref a14, .ref a15, .int mgoal, .int mgoalDays, .int mgoalHearer, .ref a19, .ref a20, .int mleastOrder, .int mwordsMany, .ref a23, .ref a24, .ref a25, .ref a26, .ref a27, .ref a28])), (a1, .inl (g.2 0, 225, .inl mworld))] → va_S A s.heap H locs → lv_has ls 5 [(4, .int x78), (3, .int x79), (2, .int (u1.1 0)), (0, .ref h0), (1, .int p1)] → W p l e { frames := 4, cells := 0, slots := 0, locals := 92 } s m ([.ref h0, .int p1].toArray) below meth c H locs 0 0 (MQ below (QX (S := (Nat → Int32) × (Nat → Nat → Int32) × (Nat → Nat → Int64)) (fun u => some (.int (u.1 0))) (fun u => True) g (fun u => [(h0, .inr (12, [.int mthrown, .ref a1, .ref a2, .ref a3, .ref a4, .int mtaped, .ref a6, .int msize, .int mat, .int mfrom, .int mtoken, .int mvalue, .int mfaultKind, .int mfaultPlace, .ref a14, .ref a15, .int mgoal, .int mgoalDays, .int mgoalHearer, .ref a19, .ref a20, .int mleastOrder, .int mwordsMany, .ref a23, .ref a24, .ref a25, .ref a26, .ref a27, .ref a28])), (a1, .inl (g.2 0, 225, .inl mworld)), (a27, .inl (g.2 3, 240, .inr (.inl mnumbers))), (a25, .inl (g.2 0, 4, .inl mmany))]) A) ([.ref h0, .int p1].toArray) s 0 0 A) (F0 m 21 ls []) := by
        intro n82
        induction n82 with
        | zero =>
          intro x78 x79 H locs ls h_x78 h_x79 hn83
          exact absurd hn83 (Nat.not_lt_zero _)
        | succ n82 ih81 =>
          intro x78 x79 H locs ls h_x78 h_x79 hn83 hP hD hS hl
          refine lv_iload hx hb dX12_believes_21 (lv_at hl 0 rfl) ?_
          refine lv_aload_n hx hb dX12_believes_23 rfl (lv_at hl 3 rfl) ?_
          refine g_get (C := RX12) (T := TX12) (N := 29) (ci := 12) (v := .ref a25) FC hKn hP i_X12 2 rfl rfl 25 (by decide) b_934 rfl dX12_believes_24 ?_
          refine lv_iload_n hx hb dX12_believes_27 rfl (lv_at hl 4 rfl) ?_
          refine va_iald hx hb hKn.1 hP 1 0 rfl rfl (vp_in_iff.mpr ⟨by omega, by omega⟩) dX12_believes_28 ?_
          refine lv_topi (fun z84 e_z84 => ?_)
          have t_z84 : -1 ≤ z84.toInt ∧ z84.toInt ≤ 60 := by rw [e_z84]; exact i_mmany _ (clt (by omega) (by omega))
          have w_z84 : 0 ≤ z84.toInt ∧ z84.toInt ≤ 10 := by rw [e_z84]; exact hw5.2.1
          have q_z84 : z84.toInt = (mmany p1.toNatClampNeg).toInt := by rw [e_z84]
          refine lv_icmp_ge (tgt := 51) hx hb dX12_believes_29 (by decide) (fun c85 => ?_) (fun c85 => ?_)
          · have c85 := k_le (a := z84.toInt) (b := x78.toInt) rfl rfl c85
            refine lv_iload_n hx hb dX12_believes_51 rfl (lv_at hl 1 rfl) ?_
            exact rt_i FX ((fun k => match k with | 0 => x79 | _ => 0), (fun _ => fun _ => 0), (fun _ => fun _ => 0)) rfl trivial (hP.sub [2, 3, 0, 1] rfl) (hD.sub [2, 3, 0, 1] (by decide) rfl) hS (Nat.le_of_ble_eq_true rfl) (Nat.le_of_ble_eq_true rfl) dX12_believes_52
          · have c85 := k_nle (a := z84.toInt) (b := x78.toInt) rfl rfl c85
            refine lv_aload_n hx hb dX12_believes_32 rfl (lv_at hl 3 rfl) ?_
            refine lv_iload_n hx hb dX12_believes_33 rfl (lv_at hl 1 rfl) ?_
            refine lv_aload_n hx hb dX12_believes_34 rfl (lv_at hl 3 rfl) ?_
            refine lv_iload_n hx hb dX12_believes_35 rfl (lv_at hl 4 rfl) ?_
            refine lv_iload hx hb dX12_believes_36 (lv_at hl 0 rfl) ?_
            refine call_V (As := [.int p1, .int x78]) (rest := [.int x79, .ref h0]) (wr := []) FC hKn hZ (k_X12_toldAt l g h0 a1 a2 a3 a4 a6 a14 a15 a19 a20 a23 a24 a25 a26 a27 a28 mthrown mtaped msize mat mfrom mtoken mvalue mfaultKind mfaultPlace mgoal mgoalDays mgoalHearer mleastOrder mwordsMany mworld mnumbers mmany p1 x78 (by omega) (by omega) (by omega) (by omega) (by omega) (by omega) (by omega) (by omega) i_mworld i_mmany (by assumption) (by omega) (by omega)) m_yX12_toldAt b_941 (ci := 12) rfl rfl rfl hP hD hS hA [2, 3, 0, 1] [] rfl (by decide) rfl (by decide) (by decide) rfl hl.1 rfl (Nat.le_of_ble_eq_true rfl) dX12_believes_38 ⟨(Nat.le_of_ble_eq_true rfl), (Nat.le_of_ble_eq_true rfl)⟩ ⟨(Nat.le_of_ble_eq_true rfl), (Nat.le_of_ble_eq_true rfl)⟩ (fun u86 H locs q87 hP hD hS => ?_)
            obtain ⟨q87_0, q87_1, q87_2⟩ := q87
            have hP : va_P g.1 vwCl [(h0, .inr (12, [.int mthrown, .ref a1, .ref a2, .ref a3, .ref a4, .int mtaped, .ref a6, .int msize, .int mat, .int mfrom, .int mtoken, .int mvalue, .int mfaultKind, .int mfaultPlace, .ref a14, .ref a15, .int mgoal, .int mgoalDays, .int mgoalHearer, .ref a19, .ref a20, .int mleastOrder, .int mwordsMany, .ref a23, .ref a24, .ref a25, .ref a26, .ref a27, .ref a28])), (a1, .inl (g.2 0, 225, .inl mworld)), (a27, .inl (g.2 3, 240, .inr (.inl mnumbers))), (a25, .inl (g.2 0, 4, .inl mmany))] H := hP
            have hD : va_D A [(h0, .inr (12, [.int mthrown, .ref a1, .ref a2, .ref a3, .ref a4, .int mtaped, .ref a6, .int msize, .int mat, .int mfrom, .int mtoken, .int mvalue, .int mfaultKind, .int mfaultPlace, .ref a14, .ref a15, .int mgoal, .int mgoalDays, .int mgoalHearer, .ref a19, .ref a20, .int mleastOrder, .int mwordsMany, .ref a23, .ref a24, .ref a25, .ref a26, .ref a27, .ref a28])), (a1, .inl (g.2 0, 225, .inl mworld)), (a27, .inl (g.2 3, 240, .inr (.inl mnumbers))), (a25, .inl (g.2 0, 4, .inl mmany))] := hD
            refine W.eq (g2 := F0 m 41 ls [.int (u86.1 0), .int x79, .ref h0]) rfl ?_
            rw [q87_1] at q87_0
            rw [q87_1] at q87_2
            refine tp_i (v := tdF mnumbers p1 x78) q87_1 ?_
            refine call_V (As := [.int x79, .int (tdF mnumbers p1 x78)]) (rest := []) (wr := [(a27, .inl (g.2 3, 240, .inr (.inl mnumbers))), (a25, .inl (g.2 0, 4, .inl mmany))]) FC hKn hZ (k_X12_behindOf l g h0 a1 a2 a3 a4 a6 a14 a15 a19 a20 a23 a24 a25 a26 a27 a28 mthrown mtaped msize mat mfrom mtoken mvalue mfaultKind mfaultPlace mgoal mgoalDays mgoalHearer mleastOrder mwordsMany mworld x79 (tdF mnumbers p1 x78) (by omega) (by omega) (by omega) (by omega) (by omega) (by omega) (by omega) (by omega) i_mworld (by omega) (by omega) (by omega)) m_yX12_behindOf b_854 (ci := 12) rfl rfl rfl hP hD hS hA [0, 1] [2, 3] rfl (by decide) rfl (by decide) (by decide) rfl hl.1 rfl (Nat.le_of_ble_eq_true rfl) dX12_believes_41 ⟨(Nat.le_of_ble_eq_true rfl), (Nat.le_of_ble_eq_true rfl)⟩ ⟨(Nat.le_of_ble_eq_true rfl), (Nat.le_of_ble_eq_true rfl)⟩ (fun u88 H locs q89 hP hD hS => ?_)
            have q89_0 : 1 ≤ (u88.1 0).toInt ∧ (u88.1 0).toInt ≤ 255 := q89
            have hP : va_P g.1 vwCl [(a27, .inl (g.2 3, 240, .inr (.inl mnumbers))), (a25, .inl (g.2 0, 4, .inl mmany)), (h0, .inr (12, [.int mthrown, .ref a1, .ref a2, .ref a3, .ref a4, .int mtaped, .ref a6, .int msize, .int mat, .int mfrom, .int mtoken, .int mvalue, .int mfaultKind, .int mfaultPlace, .ref a14, .ref a15, .int mgoal, .int mgoalDays, .int mgoalHearer, .ref a19, .ref a20, .int mleastOrder, .int mwordsMany, .ref a23, .ref a24, .ref a25, .ref a26, .ref a27, .ref a28])), (a1, .inl (g.2 0, 225, .inl mworld))] H := hP
            have hD : va_D A [(a27, .inl (g.2 3, 240, .inr (.inl mnumbers))), (a25, .inl (g.2 0, 4, .inl mmany)), (h0, .inr (12, [.int mthrown, .ref a1, .ref a2, .ref a3, .ref a4, .int mtaped, .ref a6, .int msize, .int mat, .int mfrom, .int mtoken, .int mvalue, .int mfaultKind, .int mfaultPlace, .ref a14, .ref a15, .int mgoal, .int mgoalDays, .int mgoalHearer, .ref a19, .ref a20, .int mleastOrder, .int mwordsMany, .ref a23, .ref a24, .ref a25, .ref a26, .ref a27, .ref a28])), (a1, .inl (g.2 0, 225, .inl mworld))] := hD
            refine W.eq (g2 := F0 m 44 ls [.int (u88.1 0)]) rfl ?_
            refine lv_istore_n (lv' := [(3, .int (u88.1 0)), (4, .int x78), (2, .int (u1.1 0)), (0, .ref h0), (1, .int p1)]) hx hb dX12_believes_44 rfl hl (by decide) rfl (fun ls hl => ?_)
            obtain ⟨z90, e_z90⟩ : ∃ y : Int32, y = x78 + 1 := ⟨_, rfl⟩
            have t_z90 : z90.toInt = x78.toInt + 1 := by rw [e_z90]; exact addk (by decide) (by omega) (by omega)
            refine lv_iinc (v := z90) (lv' := [(4, .int z90), (3, .int (u88.1 0)), (2, .int (u1.1 0)), (0, .ref h0), (1, .int p1)]) hx hb dX12_believes_45 hl (k := 1) rfl (by rw [e_z90]; rfl) (by decide) rfl (fun ls hl => ?_)
            refine lv_goto (tgt := 21) hx hb dX12_believes_48 (by decide) ?_
            exact ih81 z90 (u88.1 0) _ _ ls (by omega) (by omega) (by omega) hP hD hS (lv_sub hl [0, 1, 2, 3, 4] rfl)
      have kc0 : (0 : Int32).toInt = 0 := by decide
      exact lp80 _ (0 : Int32) (asF mworld) _ _ ls (by decide) (by omega) (Nat.lt_succ_self _) hP hD hS (lv_sub hl [0, 1, 2, 3, 4] rfl)
    · have c6 := k_nle (a := 0) (b := (u1.1 0).toInt) (by decide) rfl c6
      exfalso; omega
set_option maxRecDepth 100000 in
set_option maxHeartbeats 4000000 in
theorem k_X12_weekOf (l : Launch) (g : GG) (h0 : Nat) (a1 : Nat) (a2 : Nat) (a3 : Nat) (a4 : Nat) (a6 : Nat) (a14 : Nat) (a15 : Nat) (a19 : Nat) (a20 : Nat) (a23 : Nat) (a24 : Nat) (a25 : Nat) (a26 : Nat) (a27 : Nat) (a28 : Nat) (mthrown : Int32) (mtaped : Int32) (msize : Int32) (mat : Int32) (mfrom : Int32) (mtoken : Int32) (mvalue : Int32) (mfaultKind : Int32) (mfaultPlace : Int32) (mgoal : Int32) (mgoalDays : Int32) (mgoalHearer : Int32) (mleastOrder : Int32) (mwordsMany : Int32) (mworld : Nat → Int32) (mnumbers : Nat → Int64) (mmany : Nat → Int32) (p1 : Int32) (p2 : Int32) (p3 : Int32) (i_mtaped : 0 ≤ mtaped.toInt ∧ mtaped.toInt ≤ 900) (i_msize : 0 ≤ msize.toInt ∧ msize.toInt ≤ 900) (i_mat : 0 ≤ mat.toInt ∧ mat.toInt ≤ 900) (i_mfrom : 0 ≤ mfrom.toInt ∧ mfrom.toInt ≤ 900) (i_mtoken : 0 ≤ mtoken.toInt ∧ mtoken.toInt ≤ 4) (i_mvalue : 0 ≤ mvalue.toInt ∧ mvalue.toInt ≤ 99999) (i_mgoalHearer : 0 ≤ mgoalHearer.toInt ∧ mgoalHearer.toInt ≤ 3) (i_mwordsMany : 0 ≤ mwordsMany.toInt ∧ mwordsMany.toInt ≤ 10) (i_mworld : wod mworld) (i_mmany : ab mmany 4 (-1) 60) (i_p2 : 0 ≤ p2.toInt ∧ p2.toInt ≤ 3) (hw : wkok mworld mnumbers mmany p1) : Ct l g yX12_weekOf cX12_weekOf 8 (some .int) { frames := 4, cells := 0, slots := 0, locals := 95 } [.ref h0, .int p1, .int p2, .int p3] [(h0, .inr (12, [.int mthrown, .ref a1, .ref a2, .ref a3, .ref a4, .int mtaped, .ref a6, .int msize, .int mat, .int mfrom, .int mtoken, .int mvalue, .int mfaultKind, .int mfaultPlace, .ref a14, .ref a15, .int mgoal, .int mgoalDays, .int mgoalHearer, .ref a19, .ref a20, .int mleastOrder, .int mwordsMany, .ref a23, .ref a24, .ref a25, .ref a26, .ref a27, .ref a28])), (a1, .inl (g.2 0, 225, .inl mworld)), (a27, .inl (g.2 3, 240, .inr (.inl mnumbers))), (a25, .inl (g.2 0, 4, .inl mmany))] (S := (Nat → Int32) × (Nat → Nat → Int32) × (Nat → Nat → Int64)) (fun u => some (.int (u.1 0))) (fun u => True) (fun u => [(h0, .inr (12, [.int mthrown, .ref a1, .ref a2, .ref a3, .ref a4, .int mtaped, .ref a6, .int msize, .int mat, .int mfrom, .int mtoken, .int mvalue, .int mfaultKind, .int mfaultPlace, .ref a14, .ref a15, .int mgoal, .int mgoalDays, .int mgoalHearer, .ref a19, .ref a20, .int mleastOrder, .int mwordsMany, .ref a23, .ref a24, .ref a25, .ref a26, .ref a27, .ref a28])), (a1, .inl (g.2 0, 225, .inl mworld)), (a27, .inl (g.2 3, 240, .inr (.inl mnumbers))), (a25, .inl (g.2 0, 4, .inl mmany))]) := by
  refine Ct.of (by decide) (Nat.le_of_ble_eq_true rfl) ?_
  intro p e s m below meth c A ls FX hP hD hS hl
  obtain ⟨FC, hr, hlk, hKn, hA, hnm, hZ⟩ := id FX
  have FC : CallFix p m c cX12_weekOf 8 s _ BIG RX12 := FC
  obtain ⟨hx, hb, hml, hown, hB⟩ := id FC
  have hl : lv_has ls 8 [(0, .ref h0), (1, .int p1), (2, .int p2), (3, .int p3)] := hl
  have hwb := hw.2.1
  have hwa := hw.1
  refine lv_aload_n hx hb dX12_weekOf_0 rfl (lv_at hl 0 rfl) ?_
  refine call_V (As := []) (rest := []) (wr := [(a27, .inl (g.2 3, 240, .inr (.inl mnumbers))), (a25, .inl (g.2 0, 4, .inl mmany))]) FC hKn hZ (k_X12_allStates l g h0 a1 a2 a3 a4 a6 a14 a15 a19 a20 a23 a24 a25 a26 a27 a28 mthrown mtaped msize mat mfrom mtoken mvalue mfaultKind mfaultPlace mgoal mgoalDays mgoalHearer mleastOrder mwordsMany mworld (by omega) (by omega) (by omega) (by omega) (by omega) (by omega) (by omega) (by omega) i_mworld) m_yX12_allStates b_806 (ci := 12) rfl rfl rfl hP hD hS hA [0, 1] [2, 3] rfl (by decide) rfl (by decide) (by decide) rfl hl.1 rfl (Nat.le_of_ble_eq_true rfl) dX12_weekOf_1 ⟨(Nat.le_of_ble_eq_true rfl), (Nat.le_of_ble_eq_true rfl)⟩ ⟨(Nat.le_of_ble_eq_true rfl), (Nat.le_of_ble_eq_true rfl)⟩ (fun u1 H locs q2 hP hD hS => ?_)
  obtain ⟨q2_0, q2_1, q2_2⟩ := q2
  have hP : va_P g.1 vwCl [(a27, .inl (g.2 3, 240, .inr (.inl mnumbers))), (a25, .inl (g.2 0, 4, .inl mmany)), (h0, .inr (12, [.int mthrown, .ref a1, .ref a2, .ref a3, .ref a4, .int mtaped, .ref a6, .int msize, .int mat, .int mfrom, .int mtoken, .int mvalue, .int mfaultKind, .int mfaultPlace, .ref a14, .ref a15, .int mgoal, .int mgoalDays, .int mgoalHearer, .ref a19, .ref a20, .int mleastOrder, .int mwordsMany, .ref a23, .ref a24, .ref a25, .ref a26, .ref a27, .ref a28])), (a1, .inl (g.2 0, 225, .inl mworld))] H := hP
  have hD : va_D A [(a27, .inl (g.2 3, 240, .inr (.inl mnumbers))), (a25, .inl (g.2 0, 4, .inl mmany)), (h0, .inr (12, [.int mthrown, .ref a1, .ref a2, .ref a3, .ref a4, .int mtaped, .ref a6, .int msize, .int mat, .int mfrom, .int mtoken, .int mvalue, .int mfaultKind, .int mfaultPlace, .ref a14, .ref a15, .int mgoal, .int mgoalDays, .int mgoalHearer, .ref a19, .ref a20, .int mleastOrder, .int mwordsMany, .ref a23, .ref a24, .ref a25, .ref a26, .ref a27, .ref a28])), (a1, .inl (g.2 0, 225, .inl mworld))] := hD
  refine W.eq (g2 := F0 m 4 ls [.int (u1.1 0)]) rfl ?_
  rw [q2_1] at q2_0
  rw [q2_1] at q2_2
  refine tp_i (v := asF mworld) q2_1 ?_
  refine lv_istore (lv' := [(4, .int (asF mworld)), (0, .ref h0), (1, .int p1), (2, .int p2), (3, .int p3)]) hx hb dX12_weekOf_4 hl (by decide) rfl (fun ls hl => ?_)
  refine lv_iconst (v := 0) hx hb dX12_weekOf_6 (by decide) ?_
  refine lv_istore (lv' := [(5, .int 0), (4, .int (asF mworld)), (0, .ref h0), (1, .int p1), (2, .int p2), (3, .int p3)]) hx hb dX12_weekOf_7 hl (by decide) rfl (fun ls hl => ?_)
  refine lv_iconst (v := 0) hx hb dX12_weekOf_9 (by decide) ?_
  refine lv_istore (lv' := [(6, .int 0), (5, .int 0), (4, .int (asF mworld)), (0, .ref h0), (1, .int p1), (2, .int p2), (3, .int p3)]) hx hb dX12_weekOf_10 hl (by decide) rfl (fun ls hl => ?_)
  have lp258 : ∀ (n260 : Nat) (x255 : Int32) (x256 : Int32) (x257 : Int32) (H : Heap) (locs : List Loc) (ls : Array Slot), 0 ≤ x255.toInt ∧ x255.toInt ≤ 10 → 1 ≤ x257.toInt ∧ x257.toInt ≤ 255 → (10 - x255.toInt).toNat < n260 → va_P g.1 vwCl [(a27, .inl (g.2 3, 240, .inr (.inl mnumbers))), (a25, .inl (g.2 0, 4, .inl mmany)), (h0, .inr (12, [.int mthrown, .ref a1, .ref a2, .ref a3, .ref a4, .int mtaped, .ref a6, .int msize, .int mat, .int mfrom, .int mtoken, .int mvalue, .int mfaultKind, .int mfaultPlace, .ref a14, .ref a15, .int mgoal, .int mgoalDays, .int mgoalHearer, .ref a19, .ref a20, .int mleastOrder, .int mwordsMany, .ref a23, .ref a24, .ref a25, .ref a26, .ref a27, .ref a28])), (a1, .inl (g.2 0, 225, .inl mworld))] H → va_D A [(a27, .inl (g.2 3, 240, .inr (.inl mnumbers))), (a25, .inl (g.2 0, 4, .inl mmany)), (h0, .inr (12, [.int mthrown, .ref a1, .ref a2, .ref a3, .ref a4, .int mtaped, .ref a6, .int msize, .int mat, .int mfrom, .int mtoken, .int mvalue, .int mfaultKind, .int mfaultPlace, .ref a14, .ref a15, .int mgoal, .int mgoalDays, .int mgoalHearer, .ref a19, .ref a20, .int mleastOrder, .int mwordsMany, .ref a23, .ref a24, .ref a25, .ref a26, .ref a27, .ref a28])), (a1, .inl (g.2 0, 225, .inl mworld))] → va_S A s.heap H locs → lv_has ls 8 [(6, .int x255), (5, .int x256), (4, .int x257), (0, .ref h0), (1, .int p1), (2, .int p2), (3, .int p3)] → W p l e { frames := 4, cells := 0, slots := 0, locals := 95 } s m ([.ref h0, .int p1, .int p2, .int p3].toArray) below meth c H locs 0 0 (MQ below (QX (S := (Nat → Int32) × (Nat → Nat → Int32) × (Nat → Nat → Int64)) (fun u => some (.int (u.1 0))) (fun u => True) g (fun u => [(h0, .inr (12, [.int mthrown, .ref a1, .ref a2, .ref a3, .ref a4, .int mtaped, .ref a6, .int msize, .int mat, .int mfrom, .int mtoken, .int mvalue, .int mfaultKind, .int mfaultPlace, .ref a14, .ref a15, .int mgoal, .int mgoalDays, .int mgoalHearer, .ref a19, .ref a20, .int mleastOrder, .int mwordsMany, .ref a23, .ref a24, .ref a25, .ref a26, .ref a27, .ref a28])), (a1, .inl (g.2 0, 225, .inl mworld)), (a27, .inl (g.2 3, 240, .inr (.inl mnumbers))), (a25, .inl (g.2 0, 4, .inl mmany))]) A) ([.ref h0, .int p1, .int p2, .int p3].toArray) s 0 0 A) (F0 m 12 ls []) := by
    intro n260
    induction n260 with
    | zero =>
      intro x255 x256 x257 H locs ls h_x255 h_x257 hn261
      exact absurd hn261 (Nat.not_lt_zero _)
    | succ n260 ih259 =>
      intro x255 x256 x257 H locs ls h_x255 h_x257 hn261 hP hD hS hl
      refine lv_iload hx hb dX12_weekOf_12 (lv_at hl 0 rfl) ?_
      refine lv_aload_n hx hb dX12_weekOf_14 rfl (lv_at hl 3 rfl) ?_
      refine g_get (C := RX12) (T := TX12) (N := 29) (ci := 12) (v := .ref a25) FC hKn hP i_X12 2 rfl rfl 25 (by decide) b_934 rfl dX12_weekOf_15 ?_
      refine lv_iload_n hx hb dX12_weekOf_18 rfl (lv_at hl 4 rfl) ?_
      refine va_iald hx hb hKn.1 hP 1 0 rfl rfl (vp_in_iff.mpr ⟨by omega, by omega⟩) dX12_weekOf_19 ?_
      refine lv_topi (fun z262 e_z262 => ?_)
      have t_z262 : -1 ≤ z262.toInt ∧ z262.toInt ≤ 60 := by rw [e_z262]; exact i_mmany _ (clt (by omega) (by omega))
      have w_z262 : 0 ≤ z262.toInt ∧ z262.toInt ≤ 10 := by rw [e_z262]; exact hw.2.1
      have q_z262 : z262.toInt = (mmany p1.toNatClampNeg).toInt := by rw [e_z262]
      refine lv_icmp_ge (tgt := 103) hx hb dX12_weekOf_20 (by decide) (fun c263 => ?_) (fun c263 => ?_)
      · have c263 := k_le (a := z262.toInt) (b := x255.toInt) rfl rfl c263
        refine lv_iload hx hb dX12_weekOf_103 (lv_at hl 1 rfl) ?_
        exact rt_i FX ((fun k => match k with | 0 => x256 | _ => 0), (fun _ => fun _ => 0), (fun _ => fun _ => 0)) rfl trivial (hP.sub [2, 3, 0, 1] rfl) (hD.sub [2, 3, 0, 1] (by decide) rfl) hS (Nat.le_of_ble_eq_true rfl) (Nat.le_of_ble_eq_true rfl) dX12_weekOf_105
      · have c263 := k_nle (a := z262.toInt) (b := x255.toInt) rfl rfl c263
        refine lv_aload_n hx hb dX12_weekOf_23 rfl (lv_at hl 3 rfl) ?_
        refine lv_iload_n hx hb dX12_weekOf_24 rfl (lv_at hl 5 rfl) ?_
        refine lv_iload hx hb dX12_weekOf_25 (lv_at hl 2 rfl) ?_
        refine lv_aload_n hx hb dX12_weekOf_27 rfl (lv_at hl 3 rfl) ?_
        refine lv_iload_n hx hb dX12_weekOf_28 rfl (lv_at hl 4 rfl) ?_
        refine lv_iload hx hb dX12_weekOf_29 (lv_at hl 0 rfl) ?_
        refine call_V (As := [.int p1, .int x255]) (rest := [.int x257, .int p2, .ref h0]) (wr := []) FC hKn hZ (k_X12_toldAt l g h0 a1 a2 a3 a4 a6 a14 a15 a19 a20 a23 a24 a25 a26 a27 a28 mthrown mtaped msize mat mfrom mtoken mvalue mfaultKind mfaultPlace mgoal mgoalDays mgoalHearer mleastOrder mwordsMany mworld mnumbers mmany p1 x255 (by omega) (by omega) (by omega) (by omega) (by omega) (by omega) (by omega) (by omega) i_mworld i_mmany (by assumption) (by omega) (by omega)) m_yX12_toldAt b_941 (ci := 12) rfl rfl rfl hP hD hS hA [2, 3, 0, 1] [] rfl (by decide) rfl (by decide) (by decide) rfl hl.1 rfl (Nat.le_of_ble_eq_true rfl) dX12_weekOf_31 ⟨(Nat.le_of_ble_eq_true rfl), (Nat.le_of_ble_eq_true rfl)⟩ ⟨(Nat.le_of_ble_eq_true rfl), (Nat.le_of_ble_eq_true rfl)⟩ (fun u264 H locs q265 hP hD hS => ?_)
        obtain ⟨q265_0, q265_1, q265_2⟩ := q265
        have hP : va_P g.1 vwCl [(h0, .inr (12, [.int mthrown, .ref a1, .ref a2, .ref a3, .ref a4, .int mtaped, .ref a6, .int msize, .int mat, .int mfrom, .int mtoken, .int mvalue, .int mfaultKind, .int mfaultPlace, .ref a14, .ref a15, .int mgoal, .int mgoalDays, .int mgoalHearer, .ref a19, .ref a20, .int mleastOrder, .int mwordsMany, .ref a23, .ref a24, .ref a25, .ref a26, .ref a27, .ref a28])), (a1, .inl (g.2 0, 225, .inl mworld)), (a27, .inl (g.2 3, 240, .inr (.inl mnumbers))), (a25, .inl (g.2 0, 4, .inl mmany))] H := hP
        have hD : va_D A [(h0, .inr (12, [.int mthrown, .ref a1, .ref a2, .ref a3, .ref a4, .int mtaped, .ref a6, .int msize, .int mat, .int mfrom, .int mtoken, .int mvalue, .int mfaultKind, .int mfaultPlace, .ref a14, .ref a15, .int mgoal, .int mgoalDays, .int mgoalHearer, .ref a19, .ref a20, .int mleastOrder, .int mwordsMany, .ref a23, .ref a24, .ref a25, .ref a26, .ref a27, .ref a28])), (a1, .inl (g.2 0, 225, .inl mworld)), (a27, .inl (g.2 3, 240, .inr (.inl mnumbers))), (a25, .inl (g.2 0, 4, .inl mmany))] := hD
        refine W.eq (g2 := F0 m 34 ls [.int (u264.1 0), .int x257, .int p2, .ref h0]) rfl ?_
        rw [q265_1] at q265_0
        rw [q265_1] at q265_2
        refine tp_i (v := tdF mnumbers p1 x255) q265_1 ?_
        refine call_V (As := [.int p2, .int x257, .int (tdF mnumbers p1 x255)]) (rest := []) (wr := [(a27, .inl (g.2 3, 240, .inr (.inl mnumbers))), (a25, .inl (g.2 0, 4, .inl mmany))]) FC hKn hZ (k_X12_hurtOf l g h0 a1 a2 a3 a4 a6 a14 a15 a19 a20 a23 a24 a25 a26 a27 a28 mthrown mtaped msize mat mfrom mtoken mvalue mfaultKind mfaultPlace mgoal mgoalDays mgoalHearer mleastOrder mwordsMany mworld p2 x257 (tdF mnumbers p1 x255) (by omega) (by omega) (by omega) (by omega) (by omega) (by omega) (by omega) (by omega) i_mworld (by omega) (by omega) (by omega) (by omega)) m_yX12_hurtOf b_894 (ci := 12) rfl rfl rfl hP hD hS hA [0, 1] [2, 3] rfl (by decide) rfl (by decide) (by decide) rfl hl.1 rfl (Nat.le_of_ble_eq_true rfl) dX12_weekOf_34 ⟨(Nat.le_of_ble_eq_true rfl), (Nat.le_of_ble_eq_true rfl)⟩ ⟨(Nat.le_of_ble_eq_true rfl), (Nat.le_of_ble_eq_true rfl)⟩ (fun u266 H locs q267 hP hD hS => ?_)
        have hP : va_P g.1 vwCl [(a27, .inl (g.2 3, 240, .inr (.inl mnumbers))), (a25, .inl (g.2 0, 4, .inl mmany)), (h0, .inr (12, [.int mthrown, .ref a1, .ref a2, .ref a3, .ref a4, .int mtaped, .ref a6, .int msize, .int mat, .int mfrom, .int mtoken, .int mvalue, .int mfaultKind, .int mfaultPlace, .ref a14, .ref a15, .int mgoal, .int mgoalDays, .int mgoalHearer, .ref a19, .ref a20, .int mleastOrder, .int mwordsMany, .ref a23, .ref a24, .ref a25, .ref a26, .ref a27, .ref a28])), (a1, .inl (g.2 0, 225, .inl mworld))] H := hP
        have hD : va_D A [(a27, .inl (g.2 3, 240, .inr (.inl mnumbers))), (a25, .inl (g.2 0, 4, .inl mmany)), (h0, .inr (12, [.int mthrown, .ref a1, .ref a2, .ref a3, .ref a4, .int mtaped, .ref a6, .int msize, .int mat, .int mfrom, .int mtoken, .int mvalue, .int mfaultKind, .int mfaultPlace, .ref a14, .ref a15, .int mgoal, .int mgoalDays, .int mgoalHearer, .ref a19, .ref a20, .int mleastOrder, .int mwordsMany, .ref a23, .ref a24, .ref a25, .ref a26, .ref a27, .ref a28])), (a1, .inl (g.2 0, 225, .inl mworld))] := hD
        refine W.eq (g2 := F0 m 37 ls [.int (u266.1 0)]) rfl ?_
        refine lv_istore (lv' := [(7, .int (u266.1 0)), (6, .int x255), (5, .int x256), (4, .int x257), (0, .ref h0), (1, .int p1), (2, .int p2), (3, .int p3)]) hx hb dX12_weekOf_37 hl (by decide) rfl (fun ls hl => ?_)
        refine lv_iload_n hx hb dX12_weekOf_39 rfl (lv_at hl 7 rfl) ?_
        refine lv_iconst (v := 1) hx hb dX12_weekOf_40 (by decide) ?_
        refine lv_icmp_ne (tgt := 54) hx hb dX12_weekOf_41 (by decide) (fun c268 => ?_) (fun c268 => ?_)
        · have c268 := k_ne (a := p3.toInt) (b := 1) rfl (by decide) c268
          refine lv_iload hx hb dX12_weekOf_54 (lv_at hl 2 rfl) ?_
          refine lv_iload_n hx hb dX12_weekOf_56 rfl (lv_at hl 7 rfl) ?_
          refine lv_if_ne (tgt := 65) hx hb dX12_weekOf_57 (by decide) (fun c269 => ?_) (fun c269 => ?_)
          · have c269 := k_ne (a := p3.toInt) (b := 0) rfl (by decide) c269
            refine lv_aload_n hx hb dX12_weekOf_65 rfl (lv_at hl 4 rfl) ?_
            refine lv_iload hx hb dX12_weekOf_66 (lv_at hl 0 rfl) ?_
            refine lv_iload hx hb dX12_weekOf_68 (lv_at hl 1 rfl) ?_
            refine lv_aload_n hx hb dX12_weekOf_70 rfl (lv_at hl 4 rfl) ?_
            refine g_get (C := RX12) (T := TX12) (N := 29) (ci := 12) (v := .ref a1) FC hKn hP i_X12 2 rfl rfl 1 (by decide) b_801 rfl dX12_weekOf_71 ?_
            refine lv_iconst (v := 2) hx hb dX12_weekOf_74 (by decide) ?_
            refine va_iald hx hb hKn.1 hP 3 0 rfl rfl (by unfold vp_in; decide) dX12_weekOf_75 ?_
            have kc2 : (2 : Int32).toInt = 2 := by decide
            refine lv_topi (fun z270 e_z270 => ?_)
            have t_z270 : 0 ≤ z270.toInt ∧ z270.toInt ≤ 10 := by rw [e_z270]; exact wk_2 i_mworld.1
            have q_z270 : z270.toInt = (mworld 2).toInt := by rw [e_z270]; rfl
            refine call_V (As := [.int (u266.1 0), .int x255, .int z270]) (rest := [.int x256]) (wr := [(a27, .inl (g.2 3, 240, .inr (.inl mnumbers))), (a25, .inl (g.2 0, 4, .inl mmany))]) FC hKn hZ (k_X12_leftOf l g h0 a1 a2 a3 a4 a6 a14 a15 a19 a20 a23 a24 a25 a26 a27 a28 mthrown mtaped msize mat mfrom mtoken mvalue mfaultKind mfaultPlace mgoal mgoalDays mgoalHearer mleastOrder mwordsMany mworld (u266.1 0) x255 z270 (by omega) (by omega) (by omega) (by omega) (by omega) (by omega) (by omega) (by omega) i_mworld) m_yX12_leftOf b_942 (ci := 12) rfl rfl rfl hP hD hS hA [2, 3] [0, 1] rfl (by decide) rfl (by decide) (by decide) rfl hl.1 rfl (Nat.le_of_ble_eq_true rfl) dX12_weekOf_76 ⟨(Nat.le_of_ble_eq_true rfl), (Nat.le_of_ble_eq_true rfl)⟩ ⟨(Nat.le_of_ble_eq_true rfl), (Nat.le_of_ble_eq_true rfl)⟩ (fun u271 H locs q272 hP hD hS => ?_)
            have hP : va_P g.1 vwCl [(a27, .inl (g.2 3, 240, .inr (.inl mnumbers))), (a25, .inl (g.2 0, 4, .inl mmany)), (h0, .inr (12, [.int mthrown, .ref a1, .ref a2, .ref a3, .ref a4, .int mtaped, .ref a6, .int msize, .int mat, .int mfrom, .int mtoken, .int mvalue, .int mfaultKind, .int mfaultPlace, .ref a14, .ref a15, .int mgoal, .int mgoalDays, .int mgoalHearer, .ref a19, .ref a20, .int mleastOrder, .int mwordsMany, .ref a23, .ref a24, .ref a25, .ref a26, .ref a27, .ref a28])), (a1, .inl (g.2 0, 225, .inl mworld))] H := hP
            have hD : va_D A [(a27, .inl (g.2 3, 240, .inr (.inl mnumbers))), (a25, .inl (g.2 0, 4, .inl mmany)), (h0, .inr (12, [.int mthrown, .ref a1, .ref a2, .ref a3, .ref a4, .int mtaped, .ref a6, .int msize, .int mat, .int mfrom, .int mtoken, .int mvalue, .int mfaultKind, .int mfaultPlace, .ref a14, .ref a15, .int mgoal, .int mgoalDays, .int mgoalHearer, .ref a19, .ref a20, .int mleastOrder, .int mwordsMany, .ref a23, .ref a24, .ref a25, .ref a26, .ref a27, .ref a28])), (a1, .inl (g.2 0, 225, .inl mworld))] := hD
            refine W.eq (g2 := F0 m 79 ls [.int (u271.1 0), .int x256]) rfl ?_
            refine lv_iadd hx hb dX12_weekOf_79 ?_
            refine lv_topi (fun z273 e_z273 => ?_)
            refine lv_istore (lv' := [(5, .int z273), (7, .int (u266.1 0)), (6, .int x255), (4, .int x257), (0, .ref h0), (1, .int p1), (2, .int p2), (3, .int p3)]) hx hb dX12_weekOf_80 hl (by decide) rfl (fun ls hl => ?_)
            refine lv_aload_n hx hb dX12_weekOf_82 rfl (lv_at hl 4 rfl) ?_
            refine lv_iload hx hb dX12_weekOf_83 (lv_at hl 3 rfl) ?_
            refine lv_aload_n hx hb dX12_weekOf_85 rfl (lv_at hl 4 rfl) ?_
            refine lv_iload_n hx hb dX12_weekOf_86 rfl (lv_at hl 5 rfl) ?_
            refine lv_iload hx hb dX12_weekOf_87 (lv_at hl 2 rfl) ?_
            refine call_V (As := [.int p1, .int x255]) (rest := [.int x257, .ref h0]) (wr := []) FC hKn hZ (k_X12_toldAt l g h0 a1 a2 a3 a4 a6 a14 a15 a19 a20 a23 a24 a25 a26 a27 a28 mthrown mtaped msize mat mfrom mtoken mvalue mfaultKind mfaultPlace mgoal mgoalDays mgoalHearer mleastOrder mwordsMany mworld mnumbers mmany p1 x255 (by omega) (by omega) (by omega) (by omega) (by omega) (by omega) (by omega) (by omega) i_mworld i_mmany (by assumption) (by omega) (by omega)) m_yX12_toldAt b_941 (ci := 12) rfl rfl rfl hP hD hS hA [2, 3, 0, 1] [] rfl (by decide) rfl (by decide) (by decide) rfl hl.1 rfl (Nat.le_of_ble_eq_true rfl) dX12_weekOf_89 ⟨(Nat.le_of_ble_eq_true rfl), (Nat.le_of_ble_eq_true rfl)⟩ ⟨(Nat.le_of_ble_eq_true rfl), (Nat.le_of_ble_eq_true rfl)⟩ (fun u274 H locs q275 hP hD hS => ?_)
            obtain ⟨q275_0, q275_1, q275_2⟩ := q275
            have hP : va_P g.1 vwCl [(h0, .inr (12, [.int mthrown, .ref a1, .ref a2, .ref a3, .ref a4, .int mtaped, .ref a6, .int msize, .int mat, .int mfrom, .int mtoken, .int mvalue, .int mfaultKind, .int mfaultPlace, .ref a14, .ref a15, .int mgoal, .int mgoalDays, .int mgoalHearer, .ref a19, .ref a20, .int mleastOrder, .int mwordsMany, .ref a23, .ref a24, .ref a25, .ref a26, .ref a27, .ref a28])), (a1, .inl (g.2 0, 225, .inl mworld)), (a27, .inl (g.2 3, 240, .inr (.inl mnumbers))), (a25, .inl (g.2 0, 4, .inl mmany))] H := hP
            have hD : va_D A [(h0, .inr (12, [.int mthrown, .ref a1, .ref a2, .ref a3, .ref a4, .int mtaped, .ref a6, .int msize, .int mat, .int mfrom, .int mtoken, .int mvalue, .int mfaultKind, .int mfaultPlace, .ref a14, .ref a15, .int mgoal, .int mgoalDays, .int mgoalHearer, .ref a19, .ref a20, .int mleastOrder, .int mwordsMany, .ref a23, .ref a24, .ref a25, .ref a26, .ref a27, .ref a28])), (a1, .inl (g.2 0, 225, .inl mworld)), (a27, .inl (g.2 3, 240, .inr (.inl mnumbers))), (a25, .inl (g.2 0, 4, .inl mmany))] := hD
            refine W.eq (g2 := F0 m 92 ls [.int (u274.1 0), .int x257, .ref h0]) rfl ?_
            rw [q275_1] at q275_0
            rw [q275_1] at q275_2
            refine tp_i (v := tdF mnumbers p1 x255) q275_1 ?_
            refine call_V (As := [.int x257, .int (tdF mnumbers p1 x255)]) (rest := []) (wr := [(a27, .inl (g.2 3, 240, .inr (.inl mnumbers))), (a25, .inl (g.2 0, 4, .inl mmany))]) FC hKn hZ (k_X12_behindOf l g h0 a1 a2 a3 a4 a6 a14 a15 a19 a20 a23 a24 a25 a26 a27 a28 mthrown mtaped msize mat mfrom mtoken mvalue mfaultKind mfaultPlace mgoal mgoalDays mgoalHearer mleastOrder mwordsMany mworld x257 (tdF mnumbers p1 x255) (by omega) (by omega) (by omega) (by omega) (by omega) (by omega) (by omega) (by omega) i_mworld (by omega) (by omega) (by omega)) m_yX12_behindOf b_854 (ci := 12) rfl rfl rfl hP hD hS hA [0, 1] [2, 3] rfl (by decide) rfl (by decide) (by decide) rfl hl.1 rfl (Nat.le_of_ble_eq_true rfl) dX12_weekOf_92 ⟨(Nat.le_of_ble_eq_true rfl), (Nat.le_of_ble_eq_true rfl)⟩ ⟨(Nat.le_of_ble_eq_true rfl), (Nat.le_of_ble_eq_true rfl)⟩ (fun u276 H locs q277 hP hD hS => ?_)
            have q277_0 : 1 ≤ (u276.1 0).toInt ∧ (u276.1 0).toInt ≤ 255 := q277
            have hP : va_P g.1 vwCl [(a27, .inl (g.2 3, 240, .inr (.inl mnumbers))), (a25, .inl (g.2 0, 4, .inl mmany)), (h0, .inr (12, [.int mthrown, .ref a1, .ref a2, .ref a3, .ref a4, .int mtaped, .ref a6, .int msize, .int mat, .int mfrom, .int mtoken, .int mvalue, .int mfaultKind, .int mfaultPlace, .ref a14, .ref a15, .int mgoal, .int mgoalDays, .int mgoalHearer, .ref a19, .ref a20, .int mleastOrder, .int mwordsMany, .ref a23, .ref a24, .ref a25, .ref a26, .ref a27, .ref a28])), (a1, .inl (g.2 0, 225, .inl mworld))] H := hP
            have hD : va_D A [(a27, .inl (g.2 3, 240, .inr (.inl mnumbers))), (a25, .inl (g.2 0, 4, .inl mmany)), (h0, .inr (12, [.int mthrown, .ref a1, .ref a2, .ref a3, .ref a4, .int mtaped, .ref a6, .int msize, .int mat, .int mfrom, .int mtoken, .int mvalue, .int mfaultKind, .int mfaultPlace, .ref a14, .ref a15, .int mgoal, .int mgoalDays, .int mgoalHearer, .ref a19, .ref a20, .int mleastOrder, .int mwordsMany, .ref a23, .ref a24, .ref a25, .ref a26, .ref a27, .ref a28])), (a1, .inl (g.2 0, 225, .inl mworld))] := hD
            refine W.eq (g2 := F0 m 95 ls [.int (u276.1 0)]) rfl ?_
            refine lv_istore (lv' := [(4, .int (u276.1 0)), (5, .int z273), (7, .int (u266.1 0)), (6, .int x255), (0, .ref h0), (1, .int p1), (2, .int p2), (3, .int p3)]) hx hb dX12_weekOf_95 hl (by decide) rfl (fun ls hl => ?_)
            obtain ⟨z278, e_z278⟩ : ∃ y : Int32, y = x255 + 1 := ⟨_, rfl⟩
            have t_z278 : z278.toInt = x255.toInt + 1 := by rw [e_z278]; exact addk (by decide) (by omega) (by omega)
            refine lv_iinc (v := z278) (lv' := [(6, .int z278), (4, .int (u276.1 0)), (5, .int z273), (7, .int (u266.1 0)), (0, .ref h0), (1, .int p1), (2, .int p2), (3, .int p3)]) hx hb dX12_weekOf_97 hl (k := 3) rfl (by rw [e_z278]; rfl) (by decide) rfl (fun ls hl => ?_)
            refine lv_goto (tgt := 12) hx hb dX12_weekOf_100 (by decide) ?_
            exact ih259 z278 z273 (u276.1 0) _ _ ls (by omega) (by omega) (by omega) hP hD hS (lv_sub hl [0, 2, 1, 4, 5, 6, 7] rfl)
          · have c269 := k_eq (a := p3.toInt) (b := 0) rfl (by decide) c269
            refine lv_iload hx hb dX12_weekOf_60 (lv_at hl 0 rfl) ?_
            refine lv_goto (tgt := 79) hx hb dX12_weekOf_62 (by decide) ?_
            refine lv_iadd hx hb dX12_weekOf_79 ?_
            refine lv_topi (fun z279 e_z279 => ?_)
            refine lv_istore (lv' := [(5, .int z279), (7, .int (u266.1 0)), (6, .int x255), (4, .int x257), (0, .ref h0), (1, .int p1), (2, .int p2), (3, .int p3)]) hx hb dX12_weekOf_80 hl (by decide) rfl (fun ls hl => ?_)
            refine lv_aload_n hx hb dX12_weekOf_82 rfl (lv_at hl 4 rfl) ?_
            refine lv_iload hx hb dX12_weekOf_83 (lv_at hl 3 rfl) ?_
            refine lv_aload_n hx hb dX12_weekOf_85 rfl (lv_at hl 4 rfl) ?_
            refine lv_iload_n hx hb dX12_weekOf_86 rfl (lv_at hl 5 rfl) ?_
            refine lv_iload hx hb dX12_weekOf_87 (lv_at hl 2 rfl) ?_
            refine call_V (As := [.int p1, .int x255]) (rest := [.int x257, .ref h0]) (wr := []) FC hKn hZ (k_X12_toldAt l g h0 a1 a2 a3 a4 a6 a14 a15 a19 a20 a23 a24 a25 a26 a27 a28 mthrown mtaped msize mat mfrom mtoken mvalue mfaultKind mfaultPlace mgoal mgoalDays mgoalHearer mleastOrder mwordsMany mworld mnumbers mmany p1 x255 (by omega) (by omega) (by omega) (by omega) (by omega) (by omega) (by omega) (by omega) i_mworld i_mmany (by assumption) (by omega) (by omega)) m_yX12_toldAt b_941 (ci := 12) rfl rfl rfl hP hD hS hA [2, 3, 0, 1] [] rfl (by decide) rfl (by decide) (by decide) rfl hl.1 rfl (Nat.le_of_ble_eq_true rfl) dX12_weekOf_89 ⟨(Nat.le_of_ble_eq_true rfl), (Nat.le_of_ble_eq_true rfl)⟩ ⟨(Nat.le_of_ble_eq_true rfl), (Nat.le_of_ble_eq_true rfl)⟩ (fun u280 H locs q281 hP hD hS => ?_)
            obtain ⟨q281_0, q281_1, q281_2⟩ := q281
            have hP : va_P g.1 vwCl [(h0, .inr (12, [.int mthrown, .ref a1, .ref a2, .ref a3, .ref a4, .int mtaped, .ref a6, .int msize, .int mat, .int mfrom, .int mtoken, .int mvalue, .int mfaultKind, .int mfaultPlace, .ref a14, .ref a15, .int mgoal, .int mgoalDays, .int mgoalHearer, .ref a19, .ref a20, .int mleastOrder, .int mwordsMany, .ref a23, .ref a24, .ref a25, .ref a26, .ref a27, .ref a28])), (a1, .inl (g.2 0, 225, .inl mworld)), (a27, .inl (g.2 3, 240, .inr (.inl mnumbers))), (a25, .inl (g.2 0, 4, .inl mmany))] H := hP
            have hD : va_D A [(h0, .inr (12, [.int mthrown, .ref a1, .ref a2, .ref a3, .ref a4, .int mtaped, .ref a6, .int msize, .int mat, .int mfrom, .int mtoken, .int mvalue, .int mfaultKind, .int mfaultPlace, .ref a14, .ref a15, .int mgoal, .int mgoalDays, .int mgoalHearer, .ref a19, .ref a20, .int mleastOrder, .int mwordsMany, .ref a23, .ref a24, .ref a25, .ref a26, .ref a27, .ref a28])), (a1, .inl (g.2 0, 225, .inl mworld)), (a27, .inl (g.2 3, 240, .inr (.inl mnumbers))), (a25, .inl (g.2 0, 4, .inl mmany))] := hD
            refine W.eq (g2 := F0 m 92 ls [.int (u280.1 0), .int x257, .ref h0]) rfl ?_
            rw [q281_1] at q281_0
            rw [q281_1] at q281_2
            refine tp_i (v := tdF mnumbers p1 x255) q281_1 ?_
            refine call_V (As := [.int x257, .int (tdF mnumbers p1 x255)]) (rest := []) (wr := [(a27, .inl (g.2 3, 240, .inr (.inl mnumbers))), (a25, .inl (g.2 0, 4, .inl mmany))]) FC hKn hZ (k_X12_behindOf l g h0 a1 a2 a3 a4 a6 a14 a15 a19 a20 a23 a24 a25 a26 a27 a28 mthrown mtaped msize mat mfrom mtoken mvalue mfaultKind mfaultPlace mgoal mgoalDays mgoalHearer mleastOrder mwordsMany mworld x257 (tdF mnumbers p1 x255) (by omega) (by omega) (by omega) (by omega) (by omega) (by omega) (by omega) (by omega) i_mworld (by omega) (by omega) (by omega)) m_yX12_behindOf b_854 (ci := 12) rfl rfl rfl hP hD hS hA [0, 1] [2, 3] rfl (by decide) rfl (by decide) (by decide) rfl hl.1 rfl (Nat.le_of_ble_eq_true rfl) dX12_weekOf_92 ⟨(Nat.le_of_ble_eq_true rfl), (Nat.le_of_ble_eq_true rfl)⟩ ⟨(Nat.le_of_ble_eq_true rfl), (Nat.le_of_ble_eq_true rfl)⟩ (fun u282 H locs q283 hP hD hS => ?_)
            have q283_0 : 1 ≤ (u282.1 0).toInt ∧ (u282.1 0).toInt ≤ 255 := q283
            have hP : va_P g.1 vwCl [(a27, .inl (g.2 3, 240, .inr (.inl mnumbers))), (a25, .inl (g.2 0, 4, .inl mmany)), (h0, .inr (12, [.int mthrown, .ref a1, .ref a2, .ref a3, .ref a4, .int mtaped, .ref a6, .int msize, .int mat, .int mfrom, .int mtoken, .int mvalue, .int mfaultKind, .int mfaultPlace, .ref a14, .ref a15, .int mgoal, .int mgoalDays, .int mgoalHearer, .ref a19, .ref a20, .int mleastOrder, .int mwordsMany, .ref a23, .ref a24, .ref a25, .ref a26, .ref a27, .ref a28])), (a1, .inl (g.2 0, 225, .inl mworld))] H := hP
            have hD : va_D A [(a27, .inl (g.2 3, 240, .inr (.inl mnumbers))), (a25, .inl (g.2 0, 4, .inl mmany)), (h0, .inr (12, [.int mthrown, .ref a1, .ref a2, .ref a3, .ref a4, .int mtaped, .ref a6, .int msize, .int mat, .int mfrom, .int mtoken, .int mvalue, .int mfaultKind, .int mfaultPlace, .ref a14, .ref a15, .int mgoal, .int mgoalDays, .int mgoalHearer, .ref a19, .ref a20, .int mleastOrder, .int mwordsMany, .ref a23, .ref a24, .ref a25, .ref a26, .ref a27, .ref a28])), (a1, .inl (g.2 0, 225, .inl mworld))] := hD
            refine W.eq (g2 := F0 m 95 ls [.int (u282.1 0)]) rfl ?_
            refine lv_istore (lv' := [(4, .int (u282.1 0)), (5, .int z279), (7, .int (u266.1 0)), (6, .int x255), (0, .ref h0), (1, .int p1), (2, .int p2), (3, .int p3)]) hx hb dX12_weekOf_95 hl (by decide) rfl (fun ls hl => ?_)
            obtain ⟨z284, e_z284⟩ : ∃ y : Int32, y = x255 + 1 := ⟨_, rfl⟩
            have t_z284 : z284.toInt = x255.toInt + 1 := by rw [e_z284]; exact addk (by decide) (by omega) (by omega)
            refine lv_iinc (v := z284) (lv' := [(6, .int z284), (4, .int (u282.1 0)), (5, .int z279), (7, .int (u266.1 0)), (0, .ref h0), (1, .int p1), (2, .int p2), (3, .int p3)]) hx hb dX12_weekOf_97 hl (k := 3) rfl (by rw [e_z284]; rfl) (by decide) rfl (fun ls hl => ?_)
            refine lv_goto (tgt := 12) hx hb dX12_weekOf_100 (by decide) ?_
            exact ih259 z284 z279 (u282.1 0) _ _ ls (by omega) (by omega) (by omega) hP hD hS (lv_sub hl [0, 2, 1, 4, 5, 6, 7] rfl)
        · have c268 := k_eq (a := p3.toInt) (b := 1) rfl (by decide) c268
          refine lv_iload hx hb dX12_weekOf_44 (lv_at hl 2 rfl) ?_
          refine lv_iload hx hb dX12_weekOf_46 (lv_at hl 0 rfl) ?_
          refine va_mmax hx hb (by rw [hml]; exact hl.1.symm) hown (hB _ b_856) (hB _ b_57) (hB _ b_58) (hB _ b_59) (Nat.le_of_ble_eq_true rfl) (Nat.le_of_ble_eq_true rfl) (Nat.le_of_ble_eq_true rfl) (Nat.le_of_ble_eq_true rfl) dX12_weekOf_48 ?_
          refine lv_topi (fun z285 e_z285 => ?_)
          have t_z285 : (x256.toInt ≤ z285.toInt ∧ (u266.1 0).toInt ≤ z285.toInt ∧ (z285.toInt = x256.toInt ∨ z285.toInt = (u266.1 0).toInt)) := by rw [e_z285]; exact mmax_b _ _
          refine lv_goto (tgt := 80) hx hb dX12_weekOf_51 (by decide) ?_
          refine lv_istore (lv' := [(5, .int z285), (7, .int (u266.1 0)), (6, .int x255), (4, .int x257), (0, .ref h0), (1, .int p1), (2, .int p2), (3, .int p3)]) hx hb dX12_weekOf_80 hl (by decide) rfl (fun ls hl => ?_)
          refine lv_aload_n hx hb dX12_weekOf_82 rfl (lv_at hl 4 rfl) ?_
          refine lv_iload hx hb dX12_weekOf_83 (lv_at hl 3 rfl) ?_
          refine lv_aload_n hx hb dX12_weekOf_85 rfl (lv_at hl 4 rfl) ?_
          refine lv_iload_n hx hb dX12_weekOf_86 rfl (lv_at hl 5 rfl) ?_
          refine lv_iload hx hb dX12_weekOf_87 (lv_at hl 2 rfl) ?_
          refine call_V (As := [.int p1, .int x255]) (rest := [.int x257, .ref h0]) (wr := []) FC hKn hZ (k_X12_toldAt l g h0 a1 a2 a3 a4 a6 a14 a15 a19 a20 a23 a24 a25 a26 a27 a28 mthrown mtaped msize mat mfrom mtoken mvalue mfaultKind mfaultPlace mgoal mgoalDays mgoalHearer mleastOrder mwordsMany mworld mnumbers mmany p1 x255 (by omega) (by omega) (by omega) (by omega) (by omega) (by omega) (by omega) (by omega) i_mworld i_mmany (by assumption) (by omega) (by omega)) m_yX12_toldAt b_941 (ci := 12) rfl rfl rfl hP hD hS hA [2, 3, 0, 1] [] rfl (by decide) rfl (by decide) (by decide) rfl hl.1 rfl (Nat.le_of_ble_eq_true rfl) dX12_weekOf_89 ⟨(Nat.le_of_ble_eq_true rfl), (Nat.le_of_ble_eq_true rfl)⟩ ⟨(Nat.le_of_ble_eq_true rfl), (Nat.le_of_ble_eq_true rfl)⟩ (fun u286 H locs q287 hP hD hS => ?_)
          obtain ⟨q287_0, q287_1, q287_2⟩ := q287
          have hP : va_P g.1 vwCl [(h0, .inr (12, [.int mthrown, .ref a1, .ref a2, .ref a3, .ref a4, .int mtaped, .ref a6, .int msize, .int mat, .int mfrom, .int mtoken, .int mvalue, .int mfaultKind, .int mfaultPlace, .ref a14, .ref a15, .int mgoal, .int mgoalDays, .int mgoalHearer, .ref a19, .ref a20, .int mleastOrder, .int mwordsMany, .ref a23, .ref a24, .ref a25, .ref a26, .ref a27, .ref a28])), (a1, .inl (g.2 0, 225, .inl mworld)), (a27, .inl (g.2 3, 240, .inr (.inl mnumbers))), (a25, .inl (g.2 0, 4, .inl mmany))] H := hP
          have hD : va_D A [(h0, .inr (12, [.int mthrown, .ref a1, .ref a2, .ref a3, .ref a4, .int mtaped, .ref a6, .int msize, .int mat, .int mfrom, .int mtoken, .int mvalue, .int mfaultKind, .int mfaultPlace, .ref a14, .ref a15, .int mgoal, .int mgoalDays, .int mgoalHearer, .ref a19, .ref a20, .int mleastOrder, .int mwordsMany, .ref a23, .ref a24, .ref a25, .ref a26, .ref a27, .ref a28])), (a1, .inl (g.2 0, 225, .inl mworld)), (a27, .inl (g.2 3, 240, .inr (.inl mnumbers))), (a25, .inl (g.2 0, 4, .inl mmany))] := hD
          refine W.eq (g2 := F0 m 92 ls [.int (u286.1 0), .int x257, .ref h0]) rfl ?_
          rw [q287_1] at q287_0
          rw [q287_1] at q287_2
          refine tp_i (v := tdF mnumbers p1 x255) q287_1 ?_
          refine call_V (As := [.int x257, .int (tdF mnumbers p1 x255)]) (rest := []) (wr := [(a27, .inl (g.2 3, 240, .inr (.inl mnumbers))), (a25, .inl (g.2 0, 4, .inl mmany))]) FC hKn hZ (k_X12_behindOf l g h0 a1 a2 a3 a4 a6 a14 a15 a19 a20 a23 a24 a25 a26 a27 a28 mthrown mtaped msize mat mfrom mtoken mvalue mfaultKind mfaultPlace mgoal mgoalDays mgoalHearer mleastOrder mwordsMany mworld x257 (tdF mnumbers p1 x255) (by omega) (by omega) (by omega) (by omega) (by omega) (by omega) (by omega) (by omega) i_mworld (by omega) (by omega) (by omega)) m_yX12_behindOf b_854 (ci := 12) rfl rfl rfl hP hD hS hA [0, 1] [2, 3] rfl (by decide) rfl (by decide) (by decide) rfl hl.1 rfl (Nat.le_of_ble_eq_true rfl) dX12_weekOf_92 ⟨(Nat.le_of_ble_eq_true rfl), (Nat.le_of_ble_eq_true rfl)⟩ ⟨(Nat.le_of_ble_eq_true rfl), (Nat.le_of_ble_eq_true rfl)⟩ (fun u288 H locs q289 hP hD hS => ?_)
          have q289_0 : 1 ≤ (u288.1 0).toInt ∧ (u288.1 0).toInt ≤ 255 := q289
          have hP : va_P g.1 vwCl [(a27, .inl (g.2 3, 240, .inr (.inl mnumbers))), (a25, .inl (g.2 0, 4, .inl mmany)), (h0, .inr (12, [.int mthrown, .ref a1, .ref a2, .ref a3, .ref a4, .int mtaped, .ref a6, .int msize, .int mat, .int mfrom, .int mtoken, .int mvalue, .int mfaultKind, .int mfaultPlace, .ref a14, .ref a15, .int mgoal, .int mgoalDays, .int mgoalHearer, .ref a19, .ref a20, .int mleastOrder, .int mwordsMany, .ref a23, .ref a24, .ref a25, .ref a26, .ref a27, .ref a28])), (a1, .inl (g.2 0, 225, .inl mworld))] H := hP
          have hD : va_D A [(a27, .inl (g.2 3, 240, .inr (.inl mnumbers))), (a25, .inl (g.2 0, 4, .inl mmany)), (h0, .inr (12, [.int mthrown, .ref a1, .ref a2, .ref a3, .ref a4, .int mtaped, .ref a6, .int msize, .int mat, .int mfrom, .int mtoken, .int mvalue, .int mfaultKind, .int mfaultPlace, .ref a14, .ref a15, .int mgoal, .int mgoalDays, .int mgoalHearer, .ref a19, .ref a20, .int mleastOrder, .int mwordsMany, .ref a23, .ref a24, .ref a25, .ref a26, .ref a27, .ref a28])), (a1, .inl (g.2 0, 225, .inl mworld))] := hD
          refine W.eq (g2 := F0 m 95 ls [.int (u288.1 0)]) rfl ?_
          refine lv_istore (lv' := [(4, .int (u288.1 0)), (5, .int z285), (7, .int (u266.1 0)), (6, .int x255), (0, .ref h0), (1, .int p1), (2, .int p2), (3, .int p3)]) hx hb dX12_weekOf_95 hl (by decide) rfl (fun ls hl => ?_)
          obtain ⟨z290, e_z290⟩ : ∃ y : Int32, y = x255 + 1 := ⟨_, rfl⟩
          have t_z290 : z290.toInt = x255.toInt + 1 := by rw [e_z290]; exact addk (by decide) (by omega) (by omega)
          refine lv_iinc (v := z290) (lv' := [(6, .int z290), (4, .int (u288.1 0)), (5, .int z285), (7, .int (u266.1 0)), (0, .ref h0), (1, .int p1), (2, .int p2), (3, .int p3)]) hx hb dX12_weekOf_97 hl (k := 3) rfl (by rw [e_z290]; rfl) (by decide) rfl (fun ls hl => ?_)
          refine lv_goto (tgt := 12) hx hb dX12_weekOf_100 (by decide) ?_
          exact ih259 z290 z285 (u288.1 0) _ _ ls (by omega) (by omega) (by omega) hP hD hS (lv_sub hl [0, 2, 1, 4, 5, 6, 7] rfl)
  have kc0 : (0 : Int32).toInt = 0 := by decide
  exact lp258 _ (0 : Int32) (0 : Int32) (asF mworld) _ _ ls (by decide) (by omega) (Nat.lt_succ_self _) hP hD hS (lv_sub hl [0, 1, 2, 3, 4, 5, 6] rfl)
set_option maxRecDepth 100000 in
set_option maxHeartbeats 4000000 in
theorem k_X12_hurts (l : Launch) (g : GG) (h0 : Nat) (a1 : Nat) (a2 : Nat) (a3 : Nat) (a4 : Nat) (a6 : Nat) (a14 : Nat) (a15 : Nat) (a19 : Nat) (a20 : Nat) (a23 : Nat) (a24 : Nat) (a25 : Nat) (a26 : Nat) (a27 : Nat) (a28 : Nat) (mthrown : Int32) (mtaped : Int32) (msize : Int32) (mat : Int32) (mfrom : Int32) (mtoken : Int32) (mvalue : Int32) (mfaultKind : Int32) (mfaultPlace : Int32) (mgoal : Int32) (mgoalDays : Int32) (mgoalHearer : Int32) (mleastOrder : Int32) (mwordsMany : Int32) (mworld : Nat → Int32) (mnumbers : Nat → Int64) (mmany : Nat → Int32) (p1 : Int32) (p2 : Int32) (i_mtaped : 0 ≤ mtaped.toInt ∧ mtaped.toInt ≤ 900) (i_msize : 0 ≤ msize.toInt ∧ msize.toInt ≤ 900) (i_mat : 0 ≤ mat.toInt ∧ mat.toInt ≤ 900) (i_mfrom : 0 ≤ mfrom.toInt ∧ mfrom.toInt ≤ 900) (i_mtoken : 0 ≤ mtoken.toInt ∧ mtoken.toInt ≤ 4) (i_mvalue : 0 ≤ mvalue.toInt ∧ mvalue.toInt ≤ 99999) (i_mgoalHearer : 0 ≤ mgoalHearer.toInt ∧ mgoalHearer.toInt ≤ 3) (i_mwordsMany : 0 ≤ mwordsMany.toInt ∧ mwordsMany.toInt ≤ 10) (i_mworld : wod mworld) (i_mmany : ab mmany 4 (-1) 60) : Ct l g yX12_hurts cX12_hurts 4 (some .int) { frames := 5, cells := 0, slots := 0, locals := 122 } [.ref h0, .int p1, .int p2] [(h0, .inr (12, [.int mthrown, .ref a1, .ref a2, .ref a3, .ref a4, .int mtaped, .ref a6, .int msize, .int mat, .int mfrom, .int mtoken, .int mvalue, .int mfaultKind, .int mfaultPlace, .ref a14, .ref a15, .int mgoal, .int mgoalDays, .int mgoalHearer, .ref a19, .ref a20, .int mleastOrder, .int mwordsMany, .ref a23, .ref a24, .ref a25, .ref a26, .ref a27, .ref a28])), (a1, .inl (g.2 0, 225, .inl mworld)), (a27, .inl (g.2 3, 240, .inr (.inl mnumbers))), (a25, .inl (g.2 0, 4, .inl mmany))] (S := (Nat → Int32) × (Nat → Nat → Int32) × (Nat → Nat → Int64)) (fun u => some (.int (u.1 0))) (fun u => True) (fun u => [(h0, .inr (12, [.int mthrown, .ref a1, .ref a2, .ref a3, .ref a4, .int mtaped, .ref a6, .int msize, .int mat, .int mfrom, .int mtoken, .int mvalue, .int mfaultKind, .int mfaultPlace, .ref a14, .ref a15, .int mgoal, .int mgoalDays, .int mgoalHearer, .ref a19, .ref a20, .int mleastOrder, .int mwordsMany, .ref a23, .ref a24, .ref a25, .ref a26, .ref a27, .ref a28])), (a1, .inl (g.2 0, 225, .inl mworld)), (a27, .inl (g.2 3, 240, .inr (.inl mnumbers))), (a25, .inl (g.2 0, 4, .inl mmany))]) := by
  refine Ct.of (by decide) (Nat.le_of_ble_eq_true rfl) ?_
  intro p e s m below meth c A ls FX hP hD hS hl
  obtain ⟨FC, hr, hlk, hKn, hA, hnm, hZ⟩ := id FX
  have FC : CallFix p m c cX12_hurts 4 s _ BIG RX12 := FC
  obtain ⟨hx, hb, hml, hown, hB⟩ := id FC
  have hl : lv_has ls 4 [(0, .ref h0), (1, .int p1), (2, .int p2)] := hl
  refine lv_aload_n hx hb dX12_hurts_0 rfl (lv_at hl 0 rfl) ?_
  refine lv_iload_n hx hb dX12_hurts_1 rfl (lv_at hl 1 rfl) ?_
  refine lv_aload_n hx hb dX12_hurts_2 rfl (lv_at hl 0 rfl) ?_
  refine lv_iload_n hx hb dX12_hurts_3 rfl (lv_at hl 2 rfl) ?_
  refine call_V (As := [.int p2]) (rest := [.int p1, .ref h0]) (wr := [(a27, .inl (g.2 3, 240, .inr (.inl mnumbers))), (a25, .inl (g.2 0, 4, .inl mmany))]) FC hKn hZ (k_X12_isHearer l g h0 a1 a2 a3 a4 a6 a14 a15 a19 a20 a23 a24 a25 a26 a27 a28 mthrown mtaped msize mat mfrom mtoken mvalue mfaultKind mfaultPlace mgoal mgoalDays mgoalHearer mleastOrder mwordsMany mworld p2 (by omega) (by omega) (by omega) (by omega) (by omega) (by omega) (by omega) (by omega) i_mworld) m_yX12_isHearer b_881 (ci := 12) rfl rfl rfl hP hD hS hA [0, 1] [2, 3] rfl (by decide) rfl (by decide) (by decide) rfl hl.1 rfl (Nat.le_of_ble_eq_true rfl) dX12_hurts_4 ⟨(Nat.le_of_ble_eq_true rfl), (Nat.le_of_ble_eq_true rfl)⟩ ⟨(Nat.le_of_ble_eq_true rfl), (Nat.le_of_ble_eq_true rfl)⟩ (fun u1 H locs q2 hP hD hS => ?_)
  obtain ⟨q2_0, q2_1⟩ := q2
  have hP : va_P g.1 vwCl [(a27, .inl (g.2 3, 240, .inr (.inl mnumbers))), (a25, .inl (g.2 0, 4, .inl mmany)), (h0, .inr (12, [.int mthrown, .ref a1, .ref a2, .ref a3, .ref a4, .int mtaped, .ref a6, .int msize, .int mat, .int mfrom, .int mtoken, .int mvalue, .int mfaultKind, .int mfaultPlace, .ref a14, .ref a15, .int mgoal, .int mgoalDays, .int mgoalHearer, .ref a19, .ref a20, .int mleastOrder, .int mwordsMany, .ref a23, .ref a24, .ref a25, .ref a26, .ref a27, .ref a28])), (a1, .inl (g.2 0, 225, .inl mworld))] H := hP
  have hD : va_D A [(a27, .inl (g.2 3, 240, .inr (.inl mnumbers))), (a25, .inl (g.2 0, 4, .inl mmany)), (h0, .inr (12, [.int mthrown, .ref a1, .ref a2, .ref a3, .ref a4, .int mtaped, .ref a6, .int msize, .int mat, .int mfrom, .int mtoken, .int mvalue, .int mfaultKind, .int mfaultPlace, .ref a14, .ref a15, .int mgoal, .int mgoalDays, .int mgoalHearer, .ref a19, .ref a20, .int mleastOrder, .int mwordsMany, .ref a23, .ref a24, .ref a25, .ref a26, .ref a27, .ref a28])), (a1, .inl (g.2 0, 225, .inl mworld))] := hD
  refine W.eq (g2 := F0 m 7 ls [.int (u1.1 0), .int p1, .ref h0]) rfl ?_
  rcases (show (u1.1 0).toInt = 0 ∨ (u1.1 0).toInt = 1 by omega) with c3 | c3
  · skip
    refine call_V (As := [.int p1, .int (u1.1 0)]) (rest := []) (wr := []) FC hKn hZ (k_X12_asksWeek l g h0 a1 a2 a3 a4 a6 a14 a15 a19 a20 a23 a24 a25 a26 a27 a28 mthrown mtaped msize mat mfrom mtoken mvalue mfaultKind mfaultPlace mgoal mgoalDays mgoalHearer mleastOrder mwordsMany mworld mnumbers mmany p1 (u1.1 0) (by omega) (by omega) (by omega) (by omega) (by omega) (by omega) (by omega) (by omega) i_mworld i_mmany (by omega)) m_yX12_asksWeek b_940 (ci := 12) rfl rfl rfl hP hD hS hA [2, 3, 0, 1] [] rfl (by decide) rfl (by decide) (by decide) rfl hl.1 rfl (Nat.le_of_ble_eq_true rfl) dX12_hurts_7 ⟨(Nat.le_of_ble_eq_true rfl), (Nat.le_of_ble_eq_true rfl)⟩ ⟨(Nat.le_of_ble_eq_true rfl), (Nat.le_of_ble_eq_true rfl)⟩ (fun u4 H locs q5 hP hD hS => ?_)
    obtain ⟨q5_0, q5_1, q5_2⟩ := q5
    have hP : va_P g.1 vwCl [(h0, .inr (12, [.int mthrown, .ref a1, .ref a2, .ref a3, .ref a4, .int mtaped, .ref a6, .int msize, .int mat, .int mfrom, .int mtoken, .int mvalue, .int mfaultKind, .int mfaultPlace, .ref a14, .ref a15, .int mgoal, .int mgoalDays, .int mgoalHearer, .ref a19, .ref a20, .int mleastOrder, .int mwordsMany, .ref a23, .ref a24, .ref a25, .ref a26, .ref a27, .ref a28])), (a1, .inl (g.2 0, 225, .inl mworld)), (a27, .inl (g.2 3, 240, .inr (.inl mnumbers))), (a25, .inl (g.2 0, 4, .inl mmany))] H := hP
    have hD : va_D A [(h0, .inr (12, [.int mthrown, .ref a1, .ref a2, .ref a3, .ref a4, .int mtaped, .ref a6, .int msize, .int mat, .int mfrom, .int mtoken, .int mvalue, .int mfaultKind, .int mfaultPlace, .ref a14, .ref a15, .int mgoal, .int mgoalDays, .int mgoalHearer, .ref a19, .ref a20, .int mleastOrder, .int mwordsMany, .ref a23, .ref a24, .ref a25, .ref a26, .ref a27, .ref a28])), (a1, .inl (g.2 0, 225, .inl mworld)), (a27, .inl (g.2 3, 240, .inr (.inl mnumbers))), (a25, .inl (g.2 0, 4, .inl mmany))] := hD
    refine W.eq (g2 := F0 m 10 ls [.int (u4.1 0)]) rfl ?_
    rcases (show (u4.1 0).toInt < 0 ∨ (u4.1 0).toInt = 0 by omega) with c6 | c6
    · skip
      refine lv_istore_n (lv' := [(3, .int (u4.1 0)), (0, .ref h0), (1, .int p1), (2, .int p2)]) hx hb dX12_hurts_10 rfl hl (by decide) rfl (fun ls hl => ?_)
      refine lv_iload_n hx hb dX12_hurts_11 rfl (lv_at hl 0 rfl) ?_
      refine lv_if_ge (tgt := 19) hx hb dX12_hurts_12 (by decide) (fun c7 => ?_) (fun c7 => ?_)
      · have c7 := k_le (a := 0) (b := (u4.1 0).toInt) (by decide) rfl c7
        exfalso; omega
      · have c7 := k_nle (a := 0) (b := (u4.1 0).toInt) (by decide) rfl c7
        refine lv_iload_n hx hb dX12_hurts_15 rfl (lv_at hl 0 rfl) ?_
        refine lv_goto (tgt := 26) hx hb dX12_hurts_16 (by decide) ?_
        exact rt_i FX ((fun k => match k with | 0 => u4.1 0 | _ => 0), (fun _ => fun _ => 0), (fun _ => fun _ => 0)) rfl trivial (hP.sub [0, 1, 2, 3] rfl) (hD.sub [0, 1, 2, 3] (by decide) rfl) hS (Nat.le_of_ble_eq_true rfl) (Nat.le_of_ble_eq_true rfl) dX12_hurts_26
    · have c6_2 := q5_2 c6
      exfalso; omega
  · have c3_r := q2_1 c3
    refine call_V (As := [.int p1, .int (u1.1 0)]) (rest := []) (wr := []) FC hKn hZ (k_X12_asksWeek l g h0 a1 a2 a3 a4 a6 a14 a15 a19 a20 a23 a24 a25 a26 a27 a28 mthrown mtaped msize mat mfrom mtoken mvalue mfaultKind mfaultPlace mgoal mgoalDays mgoalHearer mleastOrder mwordsMany mworld mnumbers mmany p1 (u1.1 0) (by omega) (by omega) (by omega) (by omega) (by omega) (by omega) (by omega) (by omega) i_mworld i_mmany (by omega)) m_yX12_asksWeek b_940 (ci := 12) rfl rfl rfl hP hD hS hA [2, 3, 0, 1] [] rfl (by decide) rfl (by decide) (by decide) rfl hl.1 rfl (Nat.le_of_ble_eq_true rfl) dX12_hurts_7 ⟨(Nat.le_of_ble_eq_true rfl), (Nat.le_of_ble_eq_true rfl)⟩ ⟨(Nat.le_of_ble_eq_true rfl), (Nat.le_of_ble_eq_true rfl)⟩ (fun u8 H locs q9 hP hD hS => ?_)
    obtain ⟨q9_0, q9_1, q9_2⟩ := q9
    have hP : va_P g.1 vwCl [(h0, .inr (12, [.int mthrown, .ref a1, .ref a2, .ref a3, .ref a4, .int mtaped, .ref a6, .int msize, .int mat, .int mfrom, .int mtoken, .int mvalue, .int mfaultKind, .int mfaultPlace, .ref a14, .ref a15, .int mgoal, .int mgoalDays, .int mgoalHearer, .ref a19, .ref a20, .int mleastOrder, .int mwordsMany, .ref a23, .ref a24, .ref a25, .ref a26, .ref a27, .ref a28])), (a1, .inl (g.2 0, 225, .inl mworld)), (a27, .inl (g.2 3, 240, .inr (.inl mnumbers))), (a25, .inl (g.2 0, 4, .inl mmany))] H := hP
    have hD : va_D A [(h0, .inr (12, [.int mthrown, .ref a1, .ref a2, .ref a3, .ref a4, .int mtaped, .ref a6, .int msize, .int mat, .int mfrom, .int mtoken, .int mvalue, .int mfaultKind, .int mfaultPlace, .ref a14, .ref a15, .int mgoal, .int mgoalDays, .int mgoalHearer, .ref a19, .ref a20, .int mleastOrder, .int mwordsMany, .ref a23, .ref a24, .ref a25, .ref a26, .ref a27, .ref a28])), (a1, .inl (g.2 0, 225, .inl mworld)), (a27, .inl (g.2 3, 240, .inr (.inl mnumbers))), (a25, .inl (g.2 0, 4, .inl mmany))] := hD
    refine W.eq (g2 := F0 m 10 ls [.int (u8.1 0)]) rfl ?_
    rcases (show (u8.1 0).toInt < 0 ∨ (u8.1 0).toInt = 0 by omega) with c10 | c10
    · skip
      refine lv_istore_n (lv' := [(3, .int (u8.1 0)), (0, .ref h0), (1, .int p1), (2, .int p2)]) hx hb dX12_hurts_10 rfl hl (by decide) rfl (fun ls hl => ?_)
      refine lv_iload_n hx hb dX12_hurts_11 rfl (lv_at hl 0 rfl) ?_
      refine lv_if_ge (tgt := 19) hx hb dX12_hurts_12 (by decide) (fun c11 => ?_) (fun c11 => ?_)
      · have c11 := k_le (a := 0) (b := (u8.1 0).toInt) (by decide) rfl c11
        exfalso; omega
      · have c11 := k_nle (a := 0) (b := (u8.1 0).toInt) (by decide) rfl c11
        refine lv_iload_n hx hb dX12_hurts_15 rfl (lv_at hl 0 rfl) ?_
        refine lv_goto (tgt := 26) hx hb dX12_hurts_16 (by decide) ?_
        exact rt_i FX ((fun k => match k with | 0 => u8.1 0 | _ => 0), (fun _ => fun _ => 0), (fun _ => fun _ => 0)) rfl trivial (hP.sub [0, 1, 2, 3] rfl) (hD.sub [0, 1, 2, 3] (by decide) rfl) hS (Nat.le_of_ble_eq_true rfl) (Nat.le_of_ble_eq_true rfl) dX12_hurts_26
    · have hw12 := q9_1 c10
      have hw12b := hw12.2.1
      have hw12a := hw12.1
      refine lv_istore_n (lv' := [(3, .int (u8.1 0)), (0, .ref h0), (1, .int p1), (2, .int p2)]) hx hb dX12_hurts_10 rfl hl (by decide) rfl (fun ls hl => ?_)
      refine lv_iload_n hx hb dX12_hurts_11 rfl (lv_at hl 0 rfl) ?_
      refine lv_if_ge (tgt := 19) hx hb dX12_hurts_12 (by decide) (fun c13 => ?_) (fun c13 => ?_)
      · have c13 := k_le (a := 0) (b := (u8.1 0).toInt) (by decide) rfl c13
        refine lv_aload_n hx hb dX12_hurts_19 rfl (lv_at hl 1 rfl) ?_
        refine lv_iload_n hx hb dX12_hurts_20 rfl (lv_at hl 2 rfl) ?_
        refine lv_iload_n hx hb dX12_hurts_21 rfl (lv_at hl 3 rfl) ?_
        refine lv_iconst (v := 0) hx hb dX12_hurts_22 (by decide) ?_
        have kc0 : (0 : Int32).toInt = 0 := by decide
        refine call_V (As := [.int p1, .int p2, .int 0]) (rest := []) (wr := []) FC hKn hZ (k_X12_weekOf l g h0 a1 a2 a3 a4 a6 a14 a15 a19 a20 a23 a24 a25 a26 a27 a28 mthrown mtaped msize mat mfrom mtoken mvalue mfaultKind mfaultPlace mgoal mgoalDays mgoalHearer mleastOrder mwordsMany mworld mnumbers mmany p1 p2 ((0 : Int32)) (by omega) (by omega) (by omega) (by omega) (by omega) (by omega) (by omega) (by omega) i_mworld i_mmany (by omega) (by assumption)) m_yX12_weekOf b_943 (ci := 12) rfl rfl rfl hP hD hS hA [0, 1, 2, 3] [] rfl (by decide) rfl (by decide) (by decide) rfl hl.1 rfl (Nat.le_of_ble_eq_true rfl) dX12_hurts_23 ⟨(Nat.le_of_ble_eq_true rfl), (Nat.le_of_ble_eq_true rfl)⟩ ⟨(Nat.le_of_ble_eq_true rfl), (Nat.le_of_ble_eq_true rfl)⟩ (fun u14 H locs q15 hP hD hS => ?_)
        have hP : va_P g.1 vwCl [(h0, .inr (12, [.int mthrown, .ref a1, .ref a2, .ref a3, .ref a4, .int mtaped, .ref a6, .int msize, .int mat, .int mfrom, .int mtoken, .int mvalue, .int mfaultKind, .int mfaultPlace, .ref a14, .ref a15, .int mgoal, .int mgoalDays, .int mgoalHearer, .ref a19, .ref a20, .int mleastOrder, .int mwordsMany, .ref a23, .ref a24, .ref a25, .ref a26, .ref a27, .ref a28])), (a1, .inl (g.2 0, 225, .inl mworld)), (a27, .inl (g.2 3, 240, .inr (.inl mnumbers))), (a25, .inl (g.2 0, 4, .inl mmany))] H := hP
        have hD : va_D A [(h0, .inr (12, [.int mthrown, .ref a1, .ref a2, .ref a3, .ref a4, .int mtaped, .ref a6, .int msize, .int mat, .int mfrom, .int mtoken, .int mvalue, .int mfaultKind, .int mfaultPlace, .ref a14, .ref a15, .int mgoal, .int mgoalDays, .int mgoalHearer, .ref a19, .ref a20, .int mleastOrder, .int mwordsMany, .ref a23, .ref a24, .ref a25, .ref a26, .ref a27, .ref a28])), (a1, .inl (g.2 0, 225, .inl mworld)), (a27, .inl (g.2 3, 240, .inr (.inl mnumbers))), (a25, .inl (g.2 0, 4, .inl mmany))] := hD
        refine W.eq (g2 := F0 m 26 ls [.int (u14.1 0)]) rfl ?_
        exact rt_i FX ((fun k => match k with | 0 => u14.1 0 | _ => 0), (fun _ => fun _ => 0), (fun _ => fun _ => 0)) rfl trivial (hP.sub [0, 1, 2, 3] rfl) (hD.sub [0, 1, 2, 3] (by decide) rfl) hS (Nat.le_of_ble_eq_true rfl) (Nat.le_of_ble_eq_true rfl) dX12_hurts_26
      · have c13 := k_nle (a := 0) (b := (u8.1 0).toInt) (by decide) rfl c13
        exfalso; omega
set_option maxRecDepth 100000 in
set_option maxHeartbeats 4000000 in
theorem k_X12_worst (l : Launch) (g : GG) (h0 : Nat) (a1 : Nat) (a2 : Nat) (a3 : Nat) (a4 : Nat) (a6 : Nat) (a14 : Nat) (a15 : Nat) (a19 : Nat) (a20 : Nat) (a23 : Nat) (a24 : Nat) (a25 : Nat) (a26 : Nat) (a27 : Nat) (a28 : Nat) (mthrown : Int32) (mtaped : Int32) (msize : Int32) (mat : Int32) (mfrom : Int32) (mtoken : Int32) (mvalue : Int32) (mfaultKind : Int32) (mfaultPlace : Int32) (mgoal : Int32) (mgoalDays : Int32) (mgoalHearer : Int32) (mleastOrder : Int32) (mwordsMany : Int32) (mworld : Nat → Int32) (mnumbers : Nat → Int64) (mmany : Nat → Int32) (p1 : Int32) (p2 : Int32) (i_mtaped : 0 ≤ mtaped.toInt ∧ mtaped.toInt ≤ 900) (i_msize : 0 ≤ msize.toInt ∧ msize.toInt ≤ 900) (i_mat : 0 ≤ mat.toInt ∧ mat.toInt ≤ 900) (i_mfrom : 0 ≤ mfrom.toInt ∧ mfrom.toInt ≤ 900) (i_mtoken : 0 ≤ mtoken.toInt ∧ mtoken.toInt ≤ 4) (i_mvalue : 0 ≤ mvalue.toInt ∧ mvalue.toInt ≤ 99999) (i_mgoalHearer : 0 ≤ mgoalHearer.toInt ∧ mgoalHearer.toInt ≤ 3) (i_mwordsMany : 0 ≤ mwordsMany.toInt ∧ mwordsMany.toInt ≤ 10) (i_mworld : wod mworld) (i_mmany : ab mmany 4 (-1) 60) : Ct l g yX12_worst cX12_worst 4 (some .int) { frames := 5, cells := 0, slots := 0, locals := 122 } [.ref h0, .int p1, .int p2] [(h0, .inr (12, [.int mthrown, .ref a1, .ref a2, .ref a3, .ref a4, .int mtaped, .ref a6, .int msize, .int mat, .int mfrom, .int mtoken, .int mvalue, .int mfaultKind, .int mfaultPlace, .ref a14, .ref a15, .int mgoal, .int mgoalDays, .int mgoalHearer, .ref a19, .ref a20, .int mleastOrder, .int mwordsMany, .ref a23, .ref a24, .ref a25, .ref a26, .ref a27, .ref a28])), (a1, .inl (g.2 0, 225, .inl mworld)), (a27, .inl (g.2 3, 240, .inr (.inl mnumbers))), (a25, .inl (g.2 0, 4, .inl mmany))] (S := (Nat → Int32) × (Nat → Nat → Int32) × (Nat → Nat → Int64)) (fun u => some (.int (u.1 0))) (fun u => True) (fun u => [(h0, .inr (12, [.int mthrown, .ref a1, .ref a2, .ref a3, .ref a4, .int mtaped, .ref a6, .int msize, .int mat, .int mfrom, .int mtoken, .int mvalue, .int mfaultKind, .int mfaultPlace, .ref a14, .ref a15, .int mgoal, .int mgoalDays, .int mgoalHearer, .ref a19, .ref a20, .int mleastOrder, .int mwordsMany, .ref a23, .ref a24, .ref a25, .ref a26, .ref a27, .ref a28])), (a1, .inl (g.2 0, 225, .inl mworld)), (a27, .inl (g.2 3, 240, .inr (.inl mnumbers))), (a25, .inl (g.2 0, 4, .inl mmany))]) := by
  refine Ct.of (by decide) (Nat.le_of_ble_eq_true rfl) ?_
  intro p e s m below meth c A ls FX hP hD hS hl
  obtain ⟨FC, hr, hlk, hKn, hA, hnm, hZ⟩ := id FX
  have FC : CallFix p m c cX12_worst 4 s _ BIG RX12 := FC
  obtain ⟨hx, hb, hml, hown, hB⟩ := id FC
  have hl : lv_has ls 4 [(0, .ref h0), (1, .int p1), (2, .int p2)] := hl
  refine lv_aload_n hx hb dX12_worst_0 rfl (lv_at hl 0 rfl) ?_
  refine lv_iload_n hx hb dX12_worst_1 rfl (lv_at hl 1 rfl) ?_
  refine lv_aload_n hx hb dX12_worst_2 rfl (lv_at hl 0 rfl) ?_
  refine lv_iload_n hx hb dX12_worst_3 rfl (lv_at hl 2 rfl) ?_
  refine call_V (As := [.int p2]) (rest := [.int p1, .ref h0]) (wr := [(a27, .inl (g.2 3, 240, .inr (.inl mnumbers))), (a25, .inl (g.2 0, 4, .inl mmany))]) FC hKn hZ (k_X12_isHearer l g h0 a1 a2 a3 a4 a6 a14 a15 a19 a20 a23 a24 a25 a26 a27 a28 mthrown mtaped msize mat mfrom mtoken mvalue mfaultKind mfaultPlace mgoal mgoalDays mgoalHearer mleastOrder mwordsMany mworld p2 (by omega) (by omega) (by omega) (by omega) (by omega) (by omega) (by omega) (by omega) i_mworld) m_yX12_isHearer b_881 (ci := 12) rfl rfl rfl hP hD hS hA [0, 1] [2, 3] rfl (by decide) rfl (by decide) (by decide) rfl hl.1 rfl (Nat.le_of_ble_eq_true rfl) dX12_worst_4 ⟨(Nat.le_of_ble_eq_true rfl), (Nat.le_of_ble_eq_true rfl)⟩ ⟨(Nat.le_of_ble_eq_true rfl), (Nat.le_of_ble_eq_true rfl)⟩ (fun u1 H locs q2 hP hD hS => ?_)
  obtain ⟨q2_0, q2_1⟩ := q2
  have hP : va_P g.1 vwCl [(a27, .inl (g.2 3, 240, .inr (.inl mnumbers))), (a25, .inl (g.2 0, 4, .inl mmany)), (h0, .inr (12, [.int mthrown, .ref a1, .ref a2, .ref a3, .ref a4, .int mtaped, .ref a6, .int msize, .int mat, .int mfrom, .int mtoken, .int mvalue, .int mfaultKind, .int mfaultPlace, .ref a14, .ref a15, .int mgoal, .int mgoalDays, .int mgoalHearer, .ref a19, .ref a20, .int mleastOrder, .int mwordsMany, .ref a23, .ref a24, .ref a25, .ref a26, .ref a27, .ref a28])), (a1, .inl (g.2 0, 225, .inl mworld))] H := hP
  have hD : va_D A [(a27, .inl (g.2 3, 240, .inr (.inl mnumbers))), (a25, .inl (g.2 0, 4, .inl mmany)), (h0, .inr (12, [.int mthrown, .ref a1, .ref a2, .ref a3, .ref a4, .int mtaped, .ref a6, .int msize, .int mat, .int mfrom, .int mtoken, .int mvalue, .int mfaultKind, .int mfaultPlace, .ref a14, .ref a15, .int mgoal, .int mgoalDays, .int mgoalHearer, .ref a19, .ref a20, .int mleastOrder, .int mwordsMany, .ref a23, .ref a24, .ref a25, .ref a26, .ref a27, .ref a28])), (a1, .inl (g.2 0, 225, .inl mworld))] := hD
  refine W.eq (g2 := F0 m 7 ls [.int (u1.1 0), .int p1, .ref h0]) rfl ?_
  rcases (show (u1.1 0).toInt = 0 ∨ (u1.1 0).toInt = 1 by omega) with c3 | c3
  · skip
    refine call_V (As := [.int p1, .int (u1.1 0)]) (rest := []) (wr := []) FC hKn hZ (k_X12_asksWeek l g h0 a1 a2 a3 a4 a6 a14 a15 a19 a20 a23 a24 a25 a26 a27 a28 mthrown mtaped msize mat mfrom mtoken mvalue mfaultKind mfaultPlace mgoal mgoalDays mgoalHearer mleastOrder mwordsMany mworld mnumbers mmany p1 (u1.1 0) (by omega) (by omega) (by omega) (by omega) (by omega) (by omega) (by omega) (by omega) i_mworld i_mmany (by omega)) m_yX12_asksWeek b_940 (ci := 12) rfl rfl rfl hP hD hS hA [2, 3, 0, 1] [] rfl (by decide) rfl (by decide) (by decide) rfl hl.1 rfl (Nat.le_of_ble_eq_true rfl) dX12_worst_7 ⟨(Nat.le_of_ble_eq_true rfl), (Nat.le_of_ble_eq_true rfl)⟩ ⟨(Nat.le_of_ble_eq_true rfl), (Nat.le_of_ble_eq_true rfl)⟩ (fun u4 H locs q5 hP hD hS => ?_)
    obtain ⟨q5_0, q5_1, q5_2⟩ := q5
    have hP : va_P g.1 vwCl [(h0, .inr (12, [.int mthrown, .ref a1, .ref a2, .ref a3, .ref a4, .int mtaped, .ref a6, .int msize, .int mat, .int mfrom, .int mtoken, .int mvalue, .int mfaultKind, .int mfaultPlace, .ref a14, .ref a15, .int mgoal, .int mgoalDays, .int mgoalHearer, .ref a19, .ref a20, .int mleastOrder, .int mwordsMany, .ref a23, .ref a24, .ref a25, .ref a26, .ref a27, .ref a28])), (a1, .inl (g.2 0, 225, .inl mworld)), (a27, .inl (g.2 3, 240, .inr (.inl mnumbers))), (a25, .inl (g.2 0, 4, .inl mmany))] H := hP
    have hD : va_D A [(h0, .inr (12, [.int mthrown, .ref a1, .ref a2, .ref a3, .ref a4, .int mtaped, .ref a6, .int msize, .int mat, .int mfrom, .int mtoken, .int mvalue, .int mfaultKind, .int mfaultPlace, .ref a14, .ref a15, .int mgoal, .int mgoalDays, .int mgoalHearer, .ref a19, .ref a20, .int mleastOrder, .int mwordsMany, .ref a23, .ref a24, .ref a25, .ref a26, .ref a27, .ref a28])), (a1, .inl (g.2 0, 225, .inl mworld)), (a27, .inl (g.2 3, 240, .inr (.inl mnumbers))), (a25, .inl (g.2 0, 4, .inl mmany))] := hD
    refine W.eq (g2 := F0 m 10 ls [.int (u4.1 0)]) rfl ?_
    rcases (show (u4.1 0).toInt < 0 ∨ (u4.1 0).toInt = 0 by omega) with c6 | c6
    · skip
      refine lv_istore_n (lv' := [(3, .int (u4.1 0)), (0, .ref h0), (1, .int p1), (2, .int p2)]) hx hb dX12_worst_10 rfl hl (by decide) rfl (fun ls hl => ?_)
      refine lv_iload_n hx hb dX12_worst_11 rfl (lv_at hl 0 rfl) ?_
      refine lv_if_ge (tgt := 19) hx hb dX12_worst_12 (by decide) (fun c7 => ?_) (fun c7 => ?_)
      · have c7 := k_le (a := 0) (b := (u4.1 0).toInt) (by decide) rfl c7
        exfalso; omega
      · have c7 := k_nle (a := 0) (b := (u4.1 0).toInt) (by decide) rfl c7
        refine lv_iload_n hx hb dX12_worst_15 rfl (lv_at hl 0 rfl) ?_
        refine lv_goto (tgt := 26) hx hb dX12_worst_16 (by decide) ?_
        exact rt_i FX ((fun k => match k with | 0 => u4.1 0 | _ => 0), (fun _ => fun _ => 0), (fun _ => fun _ => 0)) rfl trivial (hP.sub [0, 1, 2, 3] rfl) (hD.sub [0, 1, 2, 3] (by decide) rfl) hS (Nat.le_of_ble_eq_true rfl) (Nat.le_of_ble_eq_true rfl) dX12_worst_26
    · have c6_2 := q5_2 c6
      exfalso; omega
  · have c3_r := q2_1 c3
    refine call_V (As := [.int p1, .int (u1.1 0)]) (rest := []) (wr := []) FC hKn hZ (k_X12_asksWeek l g h0 a1 a2 a3 a4 a6 a14 a15 a19 a20 a23 a24 a25 a26 a27 a28 mthrown mtaped msize mat mfrom mtoken mvalue mfaultKind mfaultPlace mgoal mgoalDays mgoalHearer mleastOrder mwordsMany mworld mnumbers mmany p1 (u1.1 0) (by omega) (by omega) (by omega) (by omega) (by omega) (by omega) (by omega) (by omega) i_mworld i_mmany (by omega)) m_yX12_asksWeek b_940 (ci := 12) rfl rfl rfl hP hD hS hA [2, 3, 0, 1] [] rfl (by decide) rfl (by decide) (by decide) rfl hl.1 rfl (Nat.le_of_ble_eq_true rfl) dX12_worst_7 ⟨(Nat.le_of_ble_eq_true rfl), (Nat.le_of_ble_eq_true rfl)⟩ ⟨(Nat.le_of_ble_eq_true rfl), (Nat.le_of_ble_eq_true rfl)⟩ (fun u8 H locs q9 hP hD hS => ?_)
    obtain ⟨q9_0, q9_1, q9_2⟩ := q9
    have hP : va_P g.1 vwCl [(h0, .inr (12, [.int mthrown, .ref a1, .ref a2, .ref a3, .ref a4, .int mtaped, .ref a6, .int msize, .int mat, .int mfrom, .int mtoken, .int mvalue, .int mfaultKind, .int mfaultPlace, .ref a14, .ref a15, .int mgoal, .int mgoalDays, .int mgoalHearer, .ref a19, .ref a20, .int mleastOrder, .int mwordsMany, .ref a23, .ref a24, .ref a25, .ref a26, .ref a27, .ref a28])), (a1, .inl (g.2 0, 225, .inl mworld)), (a27, .inl (g.2 3, 240, .inr (.inl mnumbers))), (a25, .inl (g.2 0, 4, .inl mmany))] H := hP
    have hD : va_D A [(h0, .inr (12, [.int mthrown, .ref a1, .ref a2, .ref a3, .ref a4, .int mtaped, .ref a6, .int msize, .int mat, .int mfrom, .int mtoken, .int mvalue, .int mfaultKind, .int mfaultPlace, .ref a14, .ref a15, .int mgoal, .int mgoalDays, .int mgoalHearer, .ref a19, .ref a20, .int mleastOrder, .int mwordsMany, .ref a23, .ref a24, .ref a25, .ref a26, .ref a27, .ref a28])), (a1, .inl (g.2 0, 225, .inl mworld)), (a27, .inl (g.2 3, 240, .inr (.inl mnumbers))), (a25, .inl (g.2 0, 4, .inl mmany))] := hD
    refine W.eq (g2 := F0 m 10 ls [.int (u8.1 0)]) rfl ?_
    rcases (show (u8.1 0).toInt < 0 ∨ (u8.1 0).toInt = 0 by omega) with c10 | c10
    · skip
      refine lv_istore_n (lv' := [(3, .int (u8.1 0)), (0, .ref h0), (1, .int p1), (2, .int p2)]) hx hb dX12_worst_10 rfl hl (by decide) rfl (fun ls hl => ?_)
      refine lv_iload_n hx hb dX12_worst_11 rfl (lv_at hl 0 rfl) ?_
      refine lv_if_ge (tgt := 19) hx hb dX12_worst_12 (by decide) (fun c11 => ?_) (fun c11 => ?_)
      · have c11 := k_le (a := 0) (b := (u8.1 0).toInt) (by decide) rfl c11
        exfalso; omega
      · have c11 := k_nle (a := 0) (b := (u8.1 0).toInt) (by decide) rfl c11
        refine lv_iload_n hx hb dX12_worst_15 rfl (lv_at hl 0 rfl) ?_
        refine lv_goto (tgt := 26) hx hb dX12_worst_16 (by decide) ?_
        exact rt_i FX ((fun k => match k with | 0 => u8.1 0 | _ => 0), (fun _ => fun _ => 0), (fun _ => fun _ => 0)) rfl trivial (hP.sub [0, 1, 2, 3] rfl) (hD.sub [0, 1, 2, 3] (by decide) rfl) hS (Nat.le_of_ble_eq_true rfl) (Nat.le_of_ble_eq_true rfl) dX12_worst_26
    · have hw12 := q9_1 c10
      have hw12b := hw12.2.1
      have hw12a := hw12.1
      refine lv_istore_n (lv' := [(3, .int (u8.1 0)), (0, .ref h0), (1, .int p1), (2, .int p2)]) hx hb dX12_worst_10 rfl hl (by decide) rfl (fun ls hl => ?_)
      refine lv_iload_n hx hb dX12_worst_11 rfl (lv_at hl 0 rfl) ?_
      refine lv_if_ge (tgt := 19) hx hb dX12_worst_12 (by decide) (fun c13 => ?_) (fun c13 => ?_)
      · have c13 := k_le (a := 0) (b := (u8.1 0).toInt) (by decide) rfl c13
        refine lv_aload_n hx hb dX12_worst_19 rfl (lv_at hl 1 rfl) ?_
        refine lv_iload_n hx hb dX12_worst_20 rfl (lv_at hl 2 rfl) ?_
        refine lv_iload_n hx hb dX12_worst_21 rfl (lv_at hl 3 rfl) ?_
        refine lv_iconst (v := 1) hx hb dX12_worst_22 (by decide) ?_
        have kc1 : (1 : Int32).toInt = 1 := by decide
        refine call_V (As := [.int p1, .int p2, .int 1]) (rest := []) (wr := []) FC hKn hZ (k_X12_weekOf l g h0 a1 a2 a3 a4 a6 a14 a15 a19 a20 a23 a24 a25 a26 a27 a28 mthrown mtaped msize mat mfrom mtoken mvalue mfaultKind mfaultPlace mgoal mgoalDays mgoalHearer mleastOrder mwordsMany mworld mnumbers mmany p1 p2 ((1 : Int32)) (by omega) (by omega) (by omega) (by omega) (by omega) (by omega) (by omega) (by omega) i_mworld i_mmany (by omega) (by assumption)) m_yX12_weekOf b_943 (ci := 12) rfl rfl rfl hP hD hS hA [0, 1, 2, 3] [] rfl (by decide) rfl (by decide) (by decide) rfl hl.1 rfl (Nat.le_of_ble_eq_true rfl) dX12_worst_23 ⟨(Nat.le_of_ble_eq_true rfl), (Nat.le_of_ble_eq_true rfl)⟩ ⟨(Nat.le_of_ble_eq_true rfl), (Nat.le_of_ble_eq_true rfl)⟩ (fun u14 H locs q15 hP hD hS => ?_)
        have hP : va_P g.1 vwCl [(h0, .inr (12, [.int mthrown, .ref a1, .ref a2, .ref a3, .ref a4, .int mtaped, .ref a6, .int msize, .int mat, .int mfrom, .int mtoken, .int mvalue, .int mfaultKind, .int mfaultPlace, .ref a14, .ref a15, .int mgoal, .int mgoalDays, .int mgoalHearer, .ref a19, .ref a20, .int mleastOrder, .int mwordsMany, .ref a23, .ref a24, .ref a25, .ref a26, .ref a27, .ref a28])), (a1, .inl (g.2 0, 225, .inl mworld)), (a27, .inl (g.2 3, 240, .inr (.inl mnumbers))), (a25, .inl (g.2 0, 4, .inl mmany))] H := hP
        have hD : va_D A [(h0, .inr (12, [.int mthrown, .ref a1, .ref a2, .ref a3, .ref a4, .int mtaped, .ref a6, .int msize, .int mat, .int mfrom, .int mtoken, .int mvalue, .int mfaultKind, .int mfaultPlace, .ref a14, .ref a15, .int mgoal, .int mgoalDays, .int mgoalHearer, .ref a19, .ref a20, .int mleastOrder, .int mwordsMany, .ref a23, .ref a24, .ref a25, .ref a26, .ref a27, .ref a28])), (a1, .inl (g.2 0, 225, .inl mworld)), (a27, .inl (g.2 3, 240, .inr (.inl mnumbers))), (a25, .inl (g.2 0, 4, .inl mmany))] := hD
        refine W.eq (g2 := F0 m 26 ls [.int (u14.1 0)]) rfl ?_
        exact rt_i FX ((fun k => match k with | 0 => u14.1 0 | _ => 0), (fun _ => fun _ => 0), (fun _ => fun _ => 0)) rfl trivial (hP.sub [0, 1, 2, 3] rfl) (hD.sub [0, 1, 2, 3] (by decide) rfl) hS (Nat.le_of_ble_eq_true rfl) (Nat.le_of_ble_eq_true rfl) dX12_worst_26
      · have c13 := k_nle (a := 0) (b := (u8.1 0).toInt) (by decide) rfl c13
        exfalso; omega
set_option maxRecDepth 100000 in
set_option maxHeartbeats 4000000 in
theorem k_X12_left (l : Launch) (g : GG) (h0 : Nat) (a1 : Nat) (a2 : Nat) (a3 : Nat) (a4 : Nat) (a6 : Nat) (a14 : Nat) (a15 : Nat) (a19 : Nat) (a20 : Nat) (a23 : Nat) (a24 : Nat) (a25 : Nat) (a26 : Nat) (a27 : Nat) (a28 : Nat) (mthrown : Int32) (mtaped : Int32) (msize : Int32) (mat : Int32) (mfrom : Int32) (mtoken : Int32) (mvalue : Int32) (mfaultKind : Int32) (mfaultPlace : Int32) (mgoal : Int32) (mgoalDays : Int32) (mgoalHearer : Int32) (mleastOrder : Int32) (mwordsMany : Int32) (mworld : Nat → Int32) (mnumbers : Nat → Int64) (mmany : Nat → Int32) (p1 : Int32) (p2 : Int32) (i_mtaped : 0 ≤ mtaped.toInt ∧ mtaped.toInt ≤ 900) (i_msize : 0 ≤ msize.toInt ∧ msize.toInt ≤ 900) (i_mat : 0 ≤ mat.toInt ∧ mat.toInt ≤ 900) (i_mfrom : 0 ≤ mfrom.toInt ∧ mfrom.toInt ≤ 900) (i_mtoken : 0 ≤ mtoken.toInt ∧ mtoken.toInt ≤ 4) (i_mvalue : 0 ≤ mvalue.toInt ∧ mvalue.toInt ≤ 99999) (i_mgoalHearer : 0 ≤ mgoalHearer.toInt ∧ mgoalHearer.toInt ≤ 3) (i_mwordsMany : 0 ≤ mwordsMany.toInt ∧ mwordsMany.toInt ≤ 10) (i_mworld : wod mworld) (i_mmany : ab mmany 4 (-1) 60) : Ct l g yX12_left cX12_left 4 (some .int) { frames := 5, cells := 0, slots := 0, locals := 122 } [.ref h0, .int p1, .int p2] [(h0, .inr (12, [.int mthrown, .ref a1, .ref a2, .ref a3, .ref a4, .int mtaped, .ref a6, .int msize, .int mat, .int mfrom, .int mtoken, .int mvalue, .int mfaultKind, .int mfaultPlace, .ref a14, .ref a15, .int mgoal, .int mgoalDays, .int mgoalHearer, .ref a19, .ref a20, .int mleastOrder, .int mwordsMany, .ref a23, .ref a24, .ref a25, .ref a26, .ref a27, .ref a28])), (a1, .inl (g.2 0, 225, .inl mworld)), (a27, .inl (g.2 3, 240, .inr (.inl mnumbers))), (a25, .inl (g.2 0, 4, .inl mmany))] (S := (Nat → Int32) × (Nat → Nat → Int32) × (Nat → Nat → Int64)) (fun u => some (.int (u.1 0))) (fun u => True) (fun u => [(h0, .inr (12, [.int mthrown, .ref a1, .ref a2, .ref a3, .ref a4, .int mtaped, .ref a6, .int msize, .int mat, .int mfrom, .int mtoken, .int mvalue, .int mfaultKind, .int mfaultPlace, .ref a14, .ref a15, .int mgoal, .int mgoalDays, .int mgoalHearer, .ref a19, .ref a20, .int mleastOrder, .int mwordsMany, .ref a23, .ref a24, .ref a25, .ref a26, .ref a27, .ref a28])), (a1, .inl (g.2 0, 225, .inl mworld)), (a27, .inl (g.2 3, 240, .inr (.inl mnumbers))), (a25, .inl (g.2 0, 4, .inl mmany))]) := by
  refine Ct.of (by decide) (Nat.le_of_ble_eq_true rfl) ?_
  intro p e s m below meth c A ls FX hP hD hS hl
  obtain ⟨FC, hr, hlk, hKn, hA, hnm, hZ⟩ := id FX
  have FC : CallFix p m c cX12_left 4 s _ BIG RX12 := FC
  obtain ⟨hx, hb, hml, hown, hB⟩ := id FC
  have hl : lv_has ls 4 [(0, .ref h0), (1, .int p1), (2, .int p2)] := hl
  refine lv_aload_n hx hb dX12_left_0 rfl (lv_at hl 0 rfl) ?_
  refine lv_iload_n hx hb dX12_left_1 rfl (lv_at hl 1 rfl) ?_
  refine lv_aload_n hx hb dX12_left_2 rfl (lv_at hl 0 rfl) ?_
  refine lv_iload_n hx hb dX12_left_3 rfl (lv_at hl 2 rfl) ?_
  refine call_V (As := [.int p2]) (rest := [.int p1, .ref h0]) (wr := [(a27, .inl (g.2 3, 240, .inr (.inl mnumbers))), (a25, .inl (g.2 0, 4, .inl mmany))]) FC hKn hZ (k_X12_isHearer l g h0 a1 a2 a3 a4 a6 a14 a15 a19 a20 a23 a24 a25 a26 a27 a28 mthrown mtaped msize mat mfrom mtoken mvalue mfaultKind mfaultPlace mgoal mgoalDays mgoalHearer mleastOrder mwordsMany mworld p2 (by omega) (by omega) (by omega) (by omega) (by omega) (by omega) (by omega) (by omega) i_mworld) m_yX12_isHearer b_881 (ci := 12) rfl rfl rfl hP hD hS hA [0, 1] [2, 3] rfl (by decide) rfl (by decide) (by decide) rfl hl.1 rfl (Nat.le_of_ble_eq_true rfl) dX12_left_4 ⟨(Nat.le_of_ble_eq_true rfl), (Nat.le_of_ble_eq_true rfl)⟩ ⟨(Nat.le_of_ble_eq_true rfl), (Nat.le_of_ble_eq_true rfl)⟩ (fun u1 H locs q2 hP hD hS => ?_)
  obtain ⟨q2_0, q2_1⟩ := q2
  have hP : va_P g.1 vwCl [(a27, .inl (g.2 3, 240, .inr (.inl mnumbers))), (a25, .inl (g.2 0, 4, .inl mmany)), (h0, .inr (12, [.int mthrown, .ref a1, .ref a2, .ref a3, .ref a4, .int mtaped, .ref a6, .int msize, .int mat, .int mfrom, .int mtoken, .int mvalue, .int mfaultKind, .int mfaultPlace, .ref a14, .ref a15, .int mgoal, .int mgoalDays, .int mgoalHearer, .ref a19, .ref a20, .int mleastOrder, .int mwordsMany, .ref a23, .ref a24, .ref a25, .ref a26, .ref a27, .ref a28])), (a1, .inl (g.2 0, 225, .inl mworld))] H := hP
  have hD : va_D A [(a27, .inl (g.2 3, 240, .inr (.inl mnumbers))), (a25, .inl (g.2 0, 4, .inl mmany)), (h0, .inr (12, [.int mthrown, .ref a1, .ref a2, .ref a3, .ref a4, .int mtaped, .ref a6, .int msize, .int mat, .int mfrom, .int mtoken, .int mvalue, .int mfaultKind, .int mfaultPlace, .ref a14, .ref a15, .int mgoal, .int mgoalDays, .int mgoalHearer, .ref a19, .ref a20, .int mleastOrder, .int mwordsMany, .ref a23, .ref a24, .ref a25, .ref a26, .ref a27, .ref a28])), (a1, .inl (g.2 0, 225, .inl mworld))] := hD
  refine W.eq (g2 := F0 m 7 ls [.int (u1.1 0), .int p1, .ref h0]) rfl ?_
  rcases (show (u1.1 0).toInt = 0 ∨ (u1.1 0).toInt = 1 by omega) with c3 | c3
  · skip
    refine call_V (As := [.int p1, .int (u1.1 0)]) (rest := []) (wr := []) FC hKn hZ (k_X12_asksWeek l g h0 a1 a2 a3 a4 a6 a14 a15 a19 a20 a23 a24 a25 a26 a27 a28 mthrown mtaped msize mat mfrom mtoken mvalue mfaultKind mfaultPlace mgoal mgoalDays mgoalHearer mleastOrder mwordsMany mworld mnumbers mmany p1 (u1.1 0) (by omega) (by omega) (by omega) (by omega) (by omega) (by omega) (by omega) (by omega) i_mworld i_mmany (by omega)) m_yX12_asksWeek b_940 (ci := 12) rfl rfl rfl hP hD hS hA [2, 3, 0, 1] [] rfl (by decide) rfl (by decide) (by decide) rfl hl.1 rfl (Nat.le_of_ble_eq_true rfl) dX12_left_7 ⟨(Nat.le_of_ble_eq_true rfl), (Nat.le_of_ble_eq_true rfl)⟩ ⟨(Nat.le_of_ble_eq_true rfl), (Nat.le_of_ble_eq_true rfl)⟩ (fun u4 H locs q5 hP hD hS => ?_)
    obtain ⟨q5_0, q5_1, q5_2⟩ := q5
    have hP : va_P g.1 vwCl [(h0, .inr (12, [.int mthrown, .ref a1, .ref a2, .ref a3, .ref a4, .int mtaped, .ref a6, .int msize, .int mat, .int mfrom, .int mtoken, .int mvalue, .int mfaultKind, .int mfaultPlace, .ref a14, .ref a15, .int mgoal, .int mgoalDays, .int mgoalHearer, .ref a19, .ref a20, .int mleastOrder, .int mwordsMany, .ref a23, .ref a24, .ref a25, .ref a26, .ref a27, .ref a28])), (a1, .inl (g.2 0, 225, .inl mworld)), (a27, .inl (g.2 3, 240, .inr (.inl mnumbers))), (a25, .inl (g.2 0, 4, .inl mmany))] H := hP
    have hD : va_D A [(h0, .inr (12, [.int mthrown, .ref a1, .ref a2, .ref a3, .ref a4, .int mtaped, .ref a6, .int msize, .int mat, .int mfrom, .int mtoken, .int mvalue, .int mfaultKind, .int mfaultPlace, .ref a14, .ref a15, .int mgoal, .int mgoalDays, .int mgoalHearer, .ref a19, .ref a20, .int mleastOrder, .int mwordsMany, .ref a23, .ref a24, .ref a25, .ref a26, .ref a27, .ref a28])), (a1, .inl (g.2 0, 225, .inl mworld)), (a27, .inl (g.2 3, 240, .inr (.inl mnumbers))), (a25, .inl (g.2 0, 4, .inl mmany))] := hD
    refine W.eq (g2 := F0 m 10 ls [.int (u4.1 0)]) rfl ?_
    rcases (show (u4.1 0).toInt < 0 ∨ (u4.1 0).toInt = 0 by omega) with c6 | c6
    · skip
      refine lv_istore_n (lv' := [(3, .int (u4.1 0)), (0, .ref h0), (1, .int p1), (2, .int p2)]) hx hb dX12_left_10 rfl hl (by decide) rfl (fun ls hl => ?_)
      refine lv_iload_n hx hb dX12_left_11 rfl (lv_at hl 0 rfl) ?_
      refine lv_if_ge (tgt := 19) hx hb dX12_left_12 (by decide) (fun c7 => ?_) (fun c7 => ?_)
      · have c7 := k_le (a := 0) (b := (u4.1 0).toInt) (by decide) rfl c7
        exfalso; omega
      · have c7 := k_nle (a := 0) (b := (u4.1 0).toInt) (by decide) rfl c7
        refine lv_iload_n hx hb dX12_left_15 rfl (lv_at hl 0 rfl) ?_
        refine lv_goto (tgt := 26) hx hb dX12_left_16 (by decide) ?_
        exact rt_i FX ((fun k => match k with | 0 => u4.1 0 | _ => 0), (fun _ => fun _ => 0), (fun _ => fun _ => 0)) rfl trivial (hP.sub [0, 1, 2, 3] rfl) (hD.sub [0, 1, 2, 3] (by decide) rfl) hS (Nat.le_of_ble_eq_true rfl) (Nat.le_of_ble_eq_true rfl) dX12_left_26
    · have c6_2 := q5_2 c6
      exfalso; omega
  · have c3_r := q2_1 c3
    refine call_V (As := [.int p1, .int (u1.1 0)]) (rest := []) (wr := []) FC hKn hZ (k_X12_asksWeek l g h0 a1 a2 a3 a4 a6 a14 a15 a19 a20 a23 a24 a25 a26 a27 a28 mthrown mtaped msize mat mfrom mtoken mvalue mfaultKind mfaultPlace mgoal mgoalDays mgoalHearer mleastOrder mwordsMany mworld mnumbers mmany p1 (u1.1 0) (by omega) (by omega) (by omega) (by omega) (by omega) (by omega) (by omega) (by omega) i_mworld i_mmany (by omega)) m_yX12_asksWeek b_940 (ci := 12) rfl rfl rfl hP hD hS hA [2, 3, 0, 1] [] rfl (by decide) rfl (by decide) (by decide) rfl hl.1 rfl (Nat.le_of_ble_eq_true rfl) dX12_left_7 ⟨(Nat.le_of_ble_eq_true rfl), (Nat.le_of_ble_eq_true rfl)⟩ ⟨(Nat.le_of_ble_eq_true rfl), (Nat.le_of_ble_eq_true rfl)⟩ (fun u8 H locs q9 hP hD hS => ?_)
    obtain ⟨q9_0, q9_1, q9_2⟩ := q9
    have hP : va_P g.1 vwCl [(h0, .inr (12, [.int mthrown, .ref a1, .ref a2, .ref a3, .ref a4, .int mtaped, .ref a6, .int msize, .int mat, .int mfrom, .int mtoken, .int mvalue, .int mfaultKind, .int mfaultPlace, .ref a14, .ref a15, .int mgoal, .int mgoalDays, .int mgoalHearer, .ref a19, .ref a20, .int mleastOrder, .int mwordsMany, .ref a23, .ref a24, .ref a25, .ref a26, .ref a27, .ref a28])), (a1, .inl (g.2 0, 225, .inl mworld)), (a27, .inl (g.2 3, 240, .inr (.inl mnumbers))), (a25, .inl (g.2 0, 4, .inl mmany))] H := hP
    have hD : va_D A [(h0, .inr (12, [.int mthrown, .ref a1, .ref a2, .ref a3, .ref a4, .int mtaped, .ref a6, .int msize, .int mat, .int mfrom, .int mtoken, .int mvalue, .int mfaultKind, .int mfaultPlace, .ref a14, .ref a15, .int mgoal, .int mgoalDays, .int mgoalHearer, .ref a19, .ref a20, .int mleastOrder, .int mwordsMany, .ref a23, .ref a24, .ref a25, .ref a26, .ref a27, .ref a28])), (a1, .inl (g.2 0, 225, .inl mworld)), (a27, .inl (g.2 3, 240, .inr (.inl mnumbers))), (a25, .inl (g.2 0, 4, .inl mmany))] := hD
    refine W.eq (g2 := F0 m 10 ls [.int (u8.1 0)]) rfl ?_
    rcases (show (u8.1 0).toInt < 0 ∨ (u8.1 0).toInt = 0 by omega) with c10 | c10
    · skip
      refine lv_istore_n (lv' := [(3, .int (u8.1 0)), (0, .ref h0), (1, .int p1), (2, .int p2)]) hx hb dX12_left_10 rfl hl (by decide) rfl (fun ls hl => ?_)
      refine lv_iload_n hx hb dX12_left_11 rfl (lv_at hl 0 rfl) ?_
      refine lv_if_ge (tgt := 19) hx hb dX12_left_12 (by decide) (fun c11 => ?_) (fun c11 => ?_)
      · have c11 := k_le (a := 0) (b := (u8.1 0).toInt) (by decide) rfl c11
        exfalso; omega
      · have c11 := k_nle (a := 0) (b := (u8.1 0).toInt) (by decide) rfl c11
        refine lv_iload_n hx hb dX12_left_15 rfl (lv_at hl 0 rfl) ?_
        refine lv_goto (tgt := 26) hx hb dX12_left_16 (by decide) ?_
        exact rt_i FX ((fun k => match k with | 0 => u8.1 0 | _ => 0), (fun _ => fun _ => 0), (fun _ => fun _ => 0)) rfl trivial (hP.sub [0, 1, 2, 3] rfl) (hD.sub [0, 1, 2, 3] (by decide) rfl) hS (Nat.le_of_ble_eq_true rfl) (Nat.le_of_ble_eq_true rfl) dX12_left_26
    · have hw12 := q9_1 c10
      have hw12b := hw12.2.1
      have hw12a := hw12.1
      refine lv_istore_n (lv' := [(3, .int (u8.1 0)), (0, .ref h0), (1, .int p1), (2, .int p2)]) hx hb dX12_left_10 rfl hl (by decide) rfl (fun ls hl => ?_)
      refine lv_iload_n hx hb dX12_left_11 rfl (lv_at hl 0 rfl) ?_
      refine lv_if_ge (tgt := 19) hx hb dX12_left_12 (by decide) (fun c13 => ?_) (fun c13 => ?_)
      · have c13 := k_le (a := 0) (b := (u8.1 0).toInt) (by decide) rfl c13
        refine lv_aload_n hx hb dX12_left_19 rfl (lv_at hl 1 rfl) ?_
        refine lv_iload_n hx hb dX12_left_20 rfl (lv_at hl 2 rfl) ?_
        refine lv_iload_n hx hb dX12_left_21 rfl (lv_at hl 3 rfl) ?_
        refine lv_iconst (v := 2) hx hb dX12_left_22 (by decide) ?_
        have kc2 : (2 : Int32).toInt = 2 := by decide
        refine call_V (As := [.int p1, .int p2, .int 2]) (rest := []) (wr := []) FC hKn hZ (k_X12_weekOf l g h0 a1 a2 a3 a4 a6 a14 a15 a19 a20 a23 a24 a25 a26 a27 a28 mthrown mtaped msize mat mfrom mtoken mvalue mfaultKind mfaultPlace mgoal mgoalDays mgoalHearer mleastOrder mwordsMany mworld mnumbers mmany p1 p2 ((2 : Int32)) (by omega) (by omega) (by omega) (by omega) (by omega) (by omega) (by omega) (by omega) i_mworld i_mmany (by omega) (by assumption)) m_yX12_weekOf b_943 (ci := 12) rfl rfl rfl hP hD hS hA [0, 1, 2, 3] [] rfl (by decide) rfl (by decide) (by decide) rfl hl.1 rfl (Nat.le_of_ble_eq_true rfl) dX12_left_23 ⟨(Nat.le_of_ble_eq_true rfl), (Nat.le_of_ble_eq_true rfl)⟩ ⟨(Nat.le_of_ble_eq_true rfl), (Nat.le_of_ble_eq_true rfl)⟩ (fun u14 H locs q15 hP hD hS => ?_)
        have hP : va_P g.1 vwCl [(h0, .inr (12, [.int mthrown, .ref a1, .ref a2, .ref a3, .ref a4, .int mtaped, .ref a6, .int msize, .int mat, .int mfrom, .int mtoken, .int mvalue, .int mfaultKind, .int mfaultPlace, .ref a14, .ref a15, .int mgoal, .int mgoalDays, .int mgoalHearer, .ref a19, .ref a20, .int mleastOrder, .int mwordsMany, .ref a23, .ref a24, .ref a25, .ref a26, .ref a27, .ref a28])), (a1, .inl (g.2 0, 225, .inl mworld)), (a27, .inl (g.2 3, 240, .inr (.inl mnumbers))), (a25, .inl (g.2 0, 4, .inl mmany))] H := hP
        have hD : va_D A [(h0, .inr (12, [.int mthrown, .ref a1, .ref a2, .ref a3, .ref a4, .int mtaped, .ref a6, .int msize, .int mat, .int mfrom, .int mtoken, .int mvalue, .int mfaultKind, .int mfaultPlace, .ref a14, .ref a15, .int mgoal, .int mgoalDays, .int mgoalHearer, .ref a19, .ref a20, .int mleastOrder, .int mwordsMany, .ref a23, .ref a24, .ref a25, .ref a26, .ref a27, .ref a28])), (a1, .inl (g.2 0, 225, .inl mworld)), (a27, .inl (g.2 3, 240, .inr (.inl mnumbers))), (a25, .inl (g.2 0, 4, .inl mmany))] := hD
        refine W.eq (g2 := F0 m 26 ls [.int (u14.1 0)]) rfl ?_
        exact rt_i FX ((fun k => match k with | 0 => u14.1 0 | _ => 0), (fun _ => fun _ => 0), (fun _ => fun _ => 0)) rfl trivial (hP.sub [0, 1, 2, 3] rfl) (hD.sub [0, 1, 2, 3] (by decide) rfl) hS (Nat.le_of_ble_eq_true rfl) (Nat.le_of_ble_eq_true rfl) dX12_left_26
      · have c13 := k_nle (a := 0) (b := (u8.1 0).toInt) (by decide) rfl c13
        exfalso; omega
set_option maxRecDepth 100000 in
set_option maxHeartbeats 4000000 in
theorem k_X12_lies (l : Launch) (g : GG) (h0 : Nat) (a1 : Nat) (a2 : Nat) (a3 : Nat) (a4 : Nat) (a6 : Nat) (a14 : Nat) (a15 : Nat) (a19 : Nat) (a20 : Nat) (a23 : Nat) (a24 : Nat) (a25 : Nat) (a26 : Nat) (a27 : Nat) (a28 : Nat) (mthrown : Int32) (mtaped : Int32) (msize : Int32) (mat : Int32) (mfrom : Int32) (mtoken : Int32) (mvalue : Int32) (mfaultKind : Int32) (mfaultPlace : Int32) (mgoal : Int32) (mgoalDays : Int32) (mgoalHearer : Int32) (mleastOrder : Int32) (mwordsMany : Int32) (mworld : Nat → Int32) (mnumbers : Nat → Int64) (mmany : Nat → Int32) (p1 : Int32) (i_mtaped : 0 ≤ mtaped.toInt ∧ mtaped.toInt ≤ 900) (i_msize : 0 ≤ msize.toInt ∧ msize.toInt ≤ 900) (i_mat : 0 ≤ mat.toInt ∧ mat.toInt ≤ 900) (i_mfrom : 0 ≤ mfrom.toInt ∧ mfrom.toInt ≤ 900) (i_mtoken : 0 ≤ mtoken.toInt ∧ mtoken.toInt ≤ 4) (i_mvalue : 0 ≤ mvalue.toInt ∧ mvalue.toInt ≤ 99999) (i_mgoalHearer : 0 ≤ mgoalHearer.toInt ∧ mgoalHearer.toInt ≤ 3) (i_mwordsMany : 0 ≤ mwordsMany.toInt ∧ mwordsMany.toInt ≤ 10) (i_mworld : wod mworld) (i_mmany : ab mmany 4 (-1) 60) : Ct l g yX12_lies cX12_lies 4 (some .int) { frames := 4, cells := 0, slots := 0, locals := 92 } [.ref h0, .int p1] [(h0, .inr (12, [.int mthrown, .ref a1, .ref a2, .ref a3, .ref a4, .int mtaped, .ref a6, .int msize, .int mat, .int mfrom, .int mtoken, .int mvalue, .int mfaultKind, .int mfaultPlace, .ref a14, .ref a15, .int mgoal, .int mgoalDays, .int mgoalHearer, .ref a19, .ref a20, .int mleastOrder, .int mwordsMany, .ref a23, .ref a24, .ref a25, .ref a26, .ref a27, .ref a28])), (a1, .inl (g.2 0, 225, .inl mworld)), (a27, .inl (g.2 3, 240, .inr (.inl mnumbers))), (a25, .inl (g.2 0, 4, .inl mmany))] (S := (Nat → Int32) × (Nat → Nat → Int32) × (Nat → Nat → Int64)) (fun u => some (.int (u.1 0))) (fun u => True) (fun u => [(h0, .inr (12, [.int mthrown, .ref a1, .ref a2, .ref a3, .ref a4, .int mtaped, .ref a6, .int msize, .int mat, .int mfrom, .int mtoken, .int mvalue, .int mfaultKind, .int mfaultPlace, .ref a14, .ref a15, .int mgoal, .int mgoalDays, .int mgoalHearer, .ref a19, .ref a20, .int mleastOrder, .int mwordsMany, .ref a23, .ref a24, .ref a25, .ref a26, .ref a27, .ref a28])), (a1, .inl (g.2 0, 225, .inl mworld)), (a27, .inl (g.2 3, 240, .inr (.inl mnumbers))), (a25, .inl (g.2 0, 4, .inl mmany))]) := by
  refine Ct.of (by decide) (Nat.le_of_ble_eq_true rfl) ?_
  intro p e s m below meth c A ls FX hP hD hS hl
  obtain ⟨FC, hr, hlk, hKn, hA, hnm, hZ⟩ := id FX
  have FC : CallFix p m c cX12_lies 4 s _ BIG RX12 := FC
  obtain ⟨hx, hb, hml, hown, hB⟩ := id FC
  have hl : lv_has ls 4 [(0, .ref h0), (1, .int p1)] := hl
  refine lv_aload_n hx hb dX12_lies_0 rfl (lv_at hl 0 rfl) ?_
  refine lv_iload_n hx hb dX12_lies_1 rfl (lv_at hl 1 rfl) ?_
  refine lv_iconst (v := 1) hx hb dX12_lies_2 (by decide) ?_
  have kc1 : (1 : Int32).toInt = 1 := by decide
  refine call_V (As := [.int p1, .int 1]) (rest := []) (wr := []) FC hKn hZ (k_X12_asksWeek l g h0 a1 a2 a3 a4 a6 a14 a15 a19 a20 a23 a24 a25 a26 a27 a28 mthrown mtaped msize mat mfrom mtoken mvalue mfaultKind mfaultPlace mgoal mgoalDays mgoalHearer mleastOrder mwordsMany mworld mnumbers mmany p1 ((1 : Int32)) (by omega) (by omega) (by omega) (by omega) (by omega) (by omega) (by omega) (by omega) i_mworld i_mmany (by omega)) m_yX12_asksWeek b_940 (ci := 12) rfl rfl rfl hP hD hS hA [0, 1, 2, 3] [] rfl (by decide) rfl (by decide) (by decide) rfl hl.1 rfl (Nat.le_of_ble_eq_true rfl) dX12_lies_3 ⟨(Nat.le_of_ble_eq_true rfl), (Nat.le_of_ble_eq_true rfl)⟩ ⟨(Nat.le_of_ble_eq_true rfl), (Nat.le_of_ble_eq_true rfl)⟩ (fun u1 H locs q2 hP hD hS => ?_)
  obtain ⟨q2_0, q2_1, q2_2⟩ := q2
  have hP : va_P g.1 vwCl [(h0, .inr (12, [.int mthrown, .ref a1, .ref a2, .ref a3, .ref a4, .int mtaped, .ref a6, .int msize, .int mat, .int mfrom, .int mtoken, .int mvalue, .int mfaultKind, .int mfaultPlace, .ref a14, .ref a15, .int mgoal, .int mgoalDays, .int mgoalHearer, .ref a19, .ref a20, .int mleastOrder, .int mwordsMany, .ref a23, .ref a24, .ref a25, .ref a26, .ref a27, .ref a28])), (a1, .inl (g.2 0, 225, .inl mworld)), (a27, .inl (g.2 3, 240, .inr (.inl mnumbers))), (a25, .inl (g.2 0, 4, .inl mmany))] H := hP
  have hD : va_D A [(h0, .inr (12, [.int mthrown, .ref a1, .ref a2, .ref a3, .ref a4, .int mtaped, .ref a6, .int msize, .int mat, .int mfrom, .int mtoken, .int mvalue, .int mfaultKind, .int mfaultPlace, .ref a14, .ref a15, .int mgoal, .int mgoalDays, .int mgoalHearer, .ref a19, .ref a20, .int mleastOrder, .int mwordsMany, .ref a23, .ref a24, .ref a25, .ref a26, .ref a27, .ref a28])), (a1, .inl (g.2 0, 225, .inl mworld)), (a27, .inl (g.2 3, 240, .inr (.inl mnumbers))), (a25, .inl (g.2 0, 4, .inl mmany))] := hD
  refine W.eq (g2 := F0 m 6 ls [.int (u1.1 0)]) rfl ?_
  rcases (show (u1.1 0).toInt < 0 ∨ (u1.1 0).toInt = 0 by omega) with c3 | c3
  · skip
    refine lv_istore_n (lv' := [(2, .int (u1.1 0)), (0, .ref h0), (1, .int p1)]) hx hb dX12_lies_6 rfl hl (by decide) rfl (fun ls hl => ?_)
    refine lv_iload_n hx hb dX12_lies_7 rfl (lv_at hl 0 rfl) ?_
    refine lv_if_ge (tgt := 13) hx hb dX12_lies_8 (by decide) (fun c4 => ?_) (fun c4 => ?_)
    · have c4 := k_le (a := 0) (b := (u1.1 0).toInt) (by decide) rfl c4
      exfalso; omega
    · have c4 := k_nle (a := 0) (b := (u1.1 0).toInt) (by decide) rfl c4
      refine lv_iload_n hx hb dX12_lies_11 rfl (lv_at hl 0 rfl) ?_
      exact rt_i FX ((fun k => match k with | 0 => u1.1 0 | _ => 0), (fun _ => fun _ => 0), (fun _ => fun _ => 0)) rfl trivial (hP.sub [0, 1, 2, 3] rfl) (hD.sub [0, 1, 2, 3] (by decide) rfl) hS (Nat.le_of_ble_eq_true rfl) (Nat.le_of_ble_eq_true rfl) dX12_lies_12
  · have hw5 := q2_1 c3
    have hw5b := hw5.2.1
    have hw5a := hw5.1
    refine lv_istore_n (lv' := [(2, .int (u1.1 0)), (0, .ref h0), (1, .int p1)]) hx hb dX12_lies_6 rfl hl (by decide) rfl (fun ls hl => ?_)
    refine lv_iload_n hx hb dX12_lies_7 rfl (lv_at hl 0 rfl) ?_
    refine lv_if_ge (tgt := 13) hx hb dX12_lies_8 (by decide) (fun c6 => ?_) (fun c6 => ?_)
    · have c6 := k_le (a := 0) (b := (u1.1 0).toInt) (by decide) rfl c6
      refine lv_iconst (v := 0) hx hb dX12_lies_13 (by decide) ?_
      refine lv_istore_n (lv' := [(3, .int 0), (2, .int (u1.1 0)), (0, .ref h0), (1, .int p1)]) hx hb dX12_lies_14 rfl hl (by decide) rfl (fun ls hl => ?_)
      have lp78 : ∀ (n80 : Nat) (x77 : Int32) (H : Heap) (locs : List Loc) (ls : Array Slot), 0 ≤ x77.toInt ∧ x77.toInt ≤ 10 → (10 - x77.toInt).toNat < n80 → va_P g.1 vwCl [(h0, .inr (12, [.int mthrown, .ref a1, .ref a2, .ref a3, .ref a4, .int mtaped, .ref a6, .int msize, .int mat, .int mfrom, .int mtoken, .int mvalue, .int mfaultKind, .int mfaultPlace, .ref a14, .ref a15, .int mgoal, .int mgoalDays, .int mgoalHearer, .ref a19, .ref a20, .int mleastOrder, .int mwordsMany, .ref a23, .ref a24, .ref a25, .ref a26, .ref a27, .ref a28])), (a1, .inl (g.2 0, 225, .inl mworld)), (a27, .inl (g.2 3, 240, .inr (.inl mnumbers))), (a25, .inl (g.2 0, 4, .inl mmany))] H → va_D A [(h0, .inr (12, [.int mthrown, .ref a1, .ref a2, .ref a3, .ref a4, .int mtaped, .ref a6, .int msize, .int mat, .int mfrom, .int mtoken, .int mvalue, .int mfaultKind, .int mfaultPlace, .ref a14, .ref a15, .int mgoal, .int mgoalDays, .int mgoalHearer, .ref a19, .ref a20, .int mleastOrder, .int mwordsMany, .ref a23, .ref a24, .ref a25, .ref a26, .ref a27, .ref a28])), (a1, .inl (g.2 0, 225, .inl mworld)), (a27, .inl (g.2 3, 240, .inr (.inl mnumbers))), (a25, .inl (g.2 0, 4, .inl mmany))] → va_S A s.heap H locs → lv_has ls 4 [(3, .int x77), (2, .int (u1.1 0)), (0, .ref h0), (1, .int p1)] → W p l e { frames := 4, cells := 0, slots := 0, locals := 92 } s m ([.ref h0, .int p1].toArray) below meth c H locs 0 0 (MQ below (QX (S := (Nat → Int32) × (Nat → Nat → Int32) × (Nat → Nat → Int64)) (fun u => some (.int (u.1 0))) (fun u => True) g (fun u => [(h0, .inr (12, [.int mthrown, .ref a1, .ref a2, .ref a3, .ref a4, .int mtaped, .ref a6, .int msize, .int mat, .int mfrom, .int mtoken, .int mvalue, .int mfaultKind, .int mfaultPlace, .ref a14, .ref a15, .int mgoal, .int mgoalDays, .int mgoalHearer, .ref a19, .ref a20, .int mleastOrder, .int mwordsMany, .ref a23, .ref a24, .ref a25, .ref a26, .ref a27, .ref a28])), (a1, .inl (g.2 0, 225, .inl mworld)), (a27, .inl (g.2 3, 240, .inr (.inl mnumbers))), (a25, .inl (g.2 0, 4, .inl mmany))]) A) ([.ref h0, .int p1].toArray) s 0 0 A) (F0 m 15 ls []) := by
        intro n80
        induction n80 with
        | zero =>
          intro x77 H locs ls h_x77 hn81
          exact absurd hn81 (Nat.not_lt_zero _)
        | succ n80 ih79 =>
          intro x77 H locs ls h_x77 hn81 hP hD hS hl
          refine lv_iload_n hx hb dX12_lies_15 rfl (lv_at hl 0 rfl) ?_
          refine lv_aload_n hx hb dX12_lies_16 rfl (lv_at hl 2 rfl) ?_
          refine g_get (C := RX12) (T := TX12) (N := 29) (ci := 12) (v := .ref a25) FC hKn hP i_X12 0 rfl rfl 25 (by decide) b_934 rfl dX12_lies_17 ?_
          refine lv_iload_n hx hb dX12_lies_20 rfl (lv_at hl 3 rfl) ?_
          refine va_iald hx hb hKn.1 hP 3 0 rfl rfl (vp_in_iff.mpr ⟨by omega, by omega⟩) dX12_lies_21 ?_
          refine lv_topi (fun z82 e_z82 => ?_)
          have t_z82 : -1 ≤ z82.toInt ∧ z82.toInt ≤ 60 := by rw [e_z82]; exact i_mmany _ (clt (by omega) (by omega))
          have w_z82 : 0 ≤ z82.toInt ∧ z82.toInt ≤ 10 := by rw [e_z82]; exact hw5.2.1
          have q_z82 : z82.toInt = (mmany p1.toNatClampNeg).toInt := by rw [e_z82]
          refine lv_icmp_ge (tgt := 46) hx hb dX12_lies_22 (by decide) (fun c83 => ?_) (fun c83 => ?_)
          · have c83 := k_le (a := z82.toInt) (b := x77.toInt) rfl rfl c83
            refine lv_iconst (v := -1) hx hb dX12_lies_46 (by decide) ?_
            exact rt_i FX ((fun k => match k with | 0 => (-1 : Int32) | _ => 0), (fun _ => fun _ => 0), (fun _ => fun _ => 0)) rfl trivial (hP.sub [0, 1, 2, 3] rfl) (hD.sub [0, 1, 2, 3] (by decide) rfl) hS (Nat.le_of_ble_eq_true rfl) (Nat.le_of_ble_eq_true rfl) dX12_lies_47
          · have c83 := k_nle (a := z82.toInt) (b := x77.toInt) rfl rfl c83
            refine lv_aload_n hx hb dX12_lies_25 rfl (lv_at hl 2 rfl) ?_
            refine lv_aload_n hx hb dX12_lies_26 rfl (lv_at hl 2 rfl) ?_
            refine lv_iload_n hx hb dX12_lies_27 rfl (lv_at hl 3 rfl) ?_
            refine lv_iload_n hx hb dX12_lies_28 rfl (lv_at hl 0 rfl) ?_
            refine call_V (As := [.int p1, .int x77]) (rest := [.ref h0]) (wr := []) FC hKn hZ (k_X12_toldAt l g h0 a1 a2 a3 a4 a6 a14 a15 a19 a20 a23 a24 a25 a26 a27 a28 mthrown mtaped msize mat mfrom mtoken mvalue mfaultKind mfaultPlace mgoal mgoalDays mgoalHearer mleastOrder mwordsMany mworld mnumbers mmany p1 x77 (by omega) (by omega) (by omega) (by omega) (by omega) (by omega) (by omega) (by omega) i_mworld i_mmany (by assumption) (by omega) (by omega)) m_yX12_toldAt b_941 (ci := 12) rfl rfl rfl hP hD hS hA [0, 1, 2, 3] [] rfl (by decide) rfl (by decide) (by decide) rfl hl.1 rfl (Nat.le_of_ble_eq_true rfl) dX12_lies_29 ⟨(Nat.le_of_ble_eq_true rfl), (Nat.le_of_ble_eq_true rfl)⟩ ⟨(Nat.le_of_ble_eq_true rfl), (Nat.le_of_ble_eq_true rfl)⟩ (fun u84 H locs q85 hP hD hS => ?_)
            obtain ⟨q85_0, q85_1, q85_2⟩ := q85
            have hP : va_P g.1 vwCl [(h0, .inr (12, [.int mthrown, .ref a1, .ref a2, .ref a3, .ref a4, .int mtaped, .ref a6, .int msize, .int mat, .int mfrom, .int mtoken, .int mvalue, .int mfaultKind, .int mfaultPlace, .ref a14, .ref a15, .int mgoal, .int mgoalDays, .int mgoalHearer, .ref a19, .ref a20, .int mleastOrder, .int mwordsMany, .ref a23, .ref a24, .ref a25, .ref a26, .ref a27, .ref a28])), (a1, .inl (g.2 0, 225, .inl mworld)), (a27, .inl (g.2 3, 240, .inr (.inl mnumbers))), (a25, .inl (g.2 0, 4, .inl mmany))] H := hP
            have hD : va_D A [(h0, .inr (12, [.int mthrown, .ref a1, .ref a2, .ref a3, .ref a4, .int mtaped, .ref a6, .int msize, .int mat, .int mfrom, .int mtoken, .int mvalue, .int mfaultKind, .int mfaultPlace, .ref a14, .ref a15, .int mgoal, .int mgoalDays, .int mgoalHearer, .ref a19, .ref a20, .int mleastOrder, .int mwordsMany, .ref a23, .ref a24, .ref a25, .ref a26, .ref a27, .ref a28])), (a1, .inl (g.2 0, 225, .inl mworld)), (a27, .inl (g.2 3, 240, .inr (.inl mnumbers))), (a25, .inl (g.2 0, 4, .inl mmany))] := hD
            refine W.eq (g2 := F0 m 32 ls [.int (u84.1 0), .ref h0]) rfl ?_
            rw [q85_1] at q85_0
            rw [q85_1] at q85_2
            refine tp_i (v := tdF mnumbers p1 x77) q85_1 ?_
            refine call_V (As := [.int (tdF mnumbers p1 x77)]) (rest := []) (wr := [(a27, .inl (g.2 3, 240, .inr (.inl mnumbers))), (a25, .inl (g.2 0, 4, .inl mmany))]) FC hKn hZ (k_X12_isTrue l g h0 a1 a2 a3 a4 a6 a14 a15 a19 a20 a23 a24 a25 a26 a27 a28 mthrown mtaped msize mat mfrom mtoken mvalue mfaultKind mfaultPlace mgoal mgoalDays mgoalHearer mleastOrder mwordsMany mworld (tdF mnumbers p1 x77) (by omega) (by omega) (by omega) (by omega) (by omega) (by omega) (by omega) (by omega) i_mworld (by omega)) m_yX12_isTrue b_850 (ci := 12) rfl rfl rfl hP hD hS hA [0, 1] [2, 3] rfl (by decide) rfl (by decide) (by decide) rfl hl.1 rfl (Nat.le_of_ble_eq_true rfl) dX12_lies_32 ⟨(Nat.le_of_ble_eq_true rfl), (Nat.le_of_ble_eq_true rfl)⟩ ⟨(Nat.le_of_ble_eq_true rfl), (Nat.le_of_ble_eq_true rfl)⟩ (fun u86 H locs q87 hP hD hS => ?_)
            have q87_0 : 0 ≤ (u86.1 0).toInt ∧ (u86.1 0).toInt ≤ 1 := q87
            have hP : va_P g.1 vwCl [(a27, .inl (g.2 3, 240, .inr (.inl mnumbers))), (a25, .inl (g.2 0, 4, .inl mmany)), (h0, .inr (12, [.int mthrown, .ref a1, .ref a2, .ref a3, .ref a4, .int mtaped, .ref a6, .int msize, .int mat, .int mfrom, .int mtoken, .int mvalue, .int mfaultKind, .int mfaultPlace, .ref a14, .ref a15, .int mgoal, .int mgoalDays, .int mgoalHearer, .ref a19, .ref a20, .int mleastOrder, .int mwordsMany, .ref a23, .ref a24, .ref a25, .ref a26, .ref a27, .ref a28])), (a1, .inl (g.2 0, 225, .inl mworld))] H := hP
            have hD : va_D A [(a27, .inl (g.2 3, 240, .inr (.inl mnumbers))), (a25, .inl (g.2 0, 4, .inl mmany)), (h0, .inr (12, [.int mthrown, .ref a1, .ref a2, .ref a3, .ref a4, .int mtaped, .ref a6, .int msize, .int mat, .int mfrom, .int mtoken, .int mvalue, .int mfaultKind, .int mfaultPlace, .ref a14, .ref a15, .int mgoal, .int mgoalDays, .int mgoalHearer, .ref a19, .ref a20, .int mleastOrder, .int mwordsMany, .ref a23, .ref a24, .ref a25, .ref a26, .ref a27, .ref a28])), (a1, .inl (g.2 0, 225, .inl mworld))] := hD
            refine W.eq (g2 := F0 m 35 ls [.int (u86.1 0)]) rfl ?_
            refine lv_if_ne (tgt := 40) hx hb dX12_lies_35 (by decide) (fun c88 => ?_) (fun c88 => ?_)
            · have c88 := k_ne (a := (u86.1 0).toInt) (b := 0) rfl (by decide) c88
              obtain ⟨z89, e_z89⟩ : ∃ y : Int32, y = x77 + 1 := ⟨_, rfl⟩
              have t_z89 : z89.toInt = x77.toInt + 1 := by rw [e_z89]; exact addk (by decide) (by omega) (by omega)
              refine lv_iinc (v := z89) (lv' := [(3, .int z89), (2, .int (u1.1 0)), (0, .ref h0), (1, .int p1)]) hx hb dX12_lies_40 hl (k := 0) rfl (by rw [e_z89]; rfl) (by decide) rfl (fun ls hl => ?_)
              refine lv_goto (tgt := 15) hx hb dX12_lies_43 (by decide) ?_
              exact ih79 z89 _ _ ls (by omega) (by omega) (hP.sub [2, 3, 0, 1] rfl) (hD.sub [2, 3, 0, 1] (by decide) rfl) hS (lv_sub hl [0, 1, 2, 3] rfl)
            · have c88 := k_eq (a := (u86.1 0).toInt) (b := 0) rfl (by decide) c88
              refine lv_iload_n hx hb dX12_lies_38 rfl (lv_at hl 0 rfl) ?_
              exact rt_i FX ((fun k => match k with | 0 => x77 | _ => 0), (fun _ => fun _ => 0), (fun _ => fun _ => 0)) rfl trivial (hP.sub [2, 3, 0, 1] rfl) (hD.sub [2, 3, 0, 1] (by decide) rfl) hS (Nat.le_of_ble_eq_true rfl) (Nat.le_of_ble_eq_true rfl) dX12_lies_39
      have kc0 : (0 : Int32).toInt = 0 := by decide
      exact lp78 _ (0 : Int32) _ _ ls (by decide) (Nat.lt_succ_self _) hP hD hS (lv_sub hl [0, 1, 2, 3] rfl)
    · have c6 := k_nle (a := 0) (b := (u1.1 0).toInt) (by decide) rfl c6
      exfalso; omega
set_option maxRecDepth 100000 in
set_option maxHeartbeats 4000000 in
theorem k_X12_shames (l : Launch) (g : GG) (h0 : Nat) (a1 : Nat) (a2 : Nat) (a3 : Nat) (a4 : Nat) (a6 : Nat) (a14 : Nat) (a15 : Nat) (a19 : Nat) (a20 : Nat) (a23 : Nat) (a24 : Nat) (a25 : Nat) (a26 : Nat) (a27 : Nat) (a28 : Nat) (mthrown : Int32) (mtaped : Int32) (msize : Int32) (mat : Int32) (mfrom : Int32) (mtoken : Int32) (mvalue : Int32) (mfaultKind : Int32) (mfaultPlace : Int32) (mgoal : Int32) (mgoalDays : Int32) (mgoalHearer : Int32) (mleastOrder : Int32) (mwordsMany : Int32) (mworld : Nat → Int32) (mnumbers : Nat → Int64) (mmany : Nat → Int32) (p1 : Int32) (i_mtaped : 0 ≤ mtaped.toInt ∧ mtaped.toInt ≤ 900) (i_msize : 0 ≤ msize.toInt ∧ msize.toInt ≤ 900) (i_mat : 0 ≤ mat.toInt ∧ mat.toInt ≤ 900) (i_mfrom : 0 ≤ mfrom.toInt ∧ mfrom.toInt ≤ 900) (i_mtoken : 0 ≤ mtoken.toInt ∧ mtoken.toInt ≤ 4) (i_mvalue : 0 ≤ mvalue.toInt ∧ mvalue.toInt ≤ 99999) (i_mgoalHearer : 0 ≤ mgoalHearer.toInt ∧ mgoalHearer.toInt ≤ 3) (i_mwordsMany : 0 ≤ mwordsMany.toInt ∧ mwordsMany.toInt ≤ 10) (i_mworld : wod mworld) (i_mmany : ab mmany 4 (-1) 60) : Ct l g yX12_shames cX12_shames 5 (some .int) { frames := 4, cells := 0, slots := 0, locals := 92 } [.ref h0, .int p1] [(h0, .inr (12, [.int mthrown, .ref a1, .ref a2, .ref a3, .ref a4, .int mtaped, .ref a6, .int msize, .int mat, .int mfrom, .int mtoken, .int mvalue, .int mfaultKind, .int mfaultPlace, .ref a14, .ref a15, .int mgoal, .int mgoalDays, .int mgoalHearer, .ref a19, .ref a20, .int mleastOrder, .int mwordsMany, .ref a23, .ref a24, .ref a25, .ref a26, .ref a27, .ref a28])), (a1, .inl (g.2 0, 225, .inl mworld)), (a27, .inl (g.2 3, 240, .inr (.inl mnumbers))), (a25, .inl (g.2 0, 4, .inl mmany))] (S := (Nat → Int32) × (Nat → Nat → Int32) × (Nat → Nat → Int64)) (fun u => some (.int (u.1 0))) (fun u => True) (fun u => [(h0, .inr (12, [.int mthrown, .ref a1, .ref a2, .ref a3, .ref a4, .int mtaped, .ref a6, .int msize, .int mat, .int mfrom, .int mtoken, .int mvalue, .int mfaultKind, .int mfaultPlace, .ref a14, .ref a15, .int mgoal, .int mgoalDays, .int mgoalHearer, .ref a19, .ref a20, .int mleastOrder, .int mwordsMany, .ref a23, .ref a24, .ref a25, .ref a26, .ref a27, .ref a28])), (a1, .inl (g.2 0, 225, .inl mworld)), (a27, .inl (g.2 3, 240, .inr (.inl mnumbers))), (a25, .inl (g.2 0, 4, .inl mmany))]) := by
  refine Ct.of (by decide) (Nat.le_of_ble_eq_true rfl) ?_
  intro p e s m below meth c A ls FX hP hD hS hl
  obtain ⟨FC, hr, hlk, hKn, hA, hnm, hZ⟩ := id FX
  have FC : CallFix p m c cX12_shames 5 s _ BIG RX12 := FC
  obtain ⟨hx, hb, hml, hown, hB⟩ := id FC
  have hl : lv_has ls 5 [(0, .ref h0), (1, .int p1)] := hl
  refine lv_aload_n hx hb dX12_shames_0 rfl (lv_at hl 0 rfl) ?_
  refine lv_iload_n hx hb dX12_shames_1 rfl (lv_at hl 1 rfl) ?_
  refine lv_iconst (v := 1) hx hb dX12_shames_2 (by decide) ?_
  have kc1 : (1 : Int32).toInt = 1 := by decide
  refine call_V (As := [.int p1, .int 1]) (rest := []) (wr := []) FC hKn hZ (k_X12_asksWeek l g h0 a1 a2 a3 a4 a6 a14 a15 a19 a20 a23 a24 a25 a26 a27 a28 mthrown mtaped msize mat mfrom mtoken mvalue mfaultKind mfaultPlace mgoal mgoalDays mgoalHearer mleastOrder mwordsMany mworld mnumbers mmany p1 ((1 : Int32)) (by omega) (by omega) (by omega) (by omega) (by omega) (by omega) (by omega) (by omega) i_mworld i_mmany (by omega)) m_yX12_asksWeek b_940 (ci := 12) rfl rfl rfl hP hD hS hA [0, 1, 2, 3] [] rfl (by decide) rfl (by decide) (by decide) rfl hl.1 rfl (Nat.le_of_ble_eq_true rfl) dX12_shames_3 ⟨(Nat.le_of_ble_eq_true rfl), (Nat.le_of_ble_eq_true rfl)⟩ ⟨(Nat.le_of_ble_eq_true rfl), (Nat.le_of_ble_eq_true rfl)⟩ (fun u1 H locs q2 hP hD hS => ?_)
  obtain ⟨q2_0, q2_1, q2_2⟩ := q2
  have hP : va_P g.1 vwCl [(h0, .inr (12, [.int mthrown, .ref a1, .ref a2, .ref a3, .ref a4, .int mtaped, .ref a6, .int msize, .int mat, .int mfrom, .int mtoken, .int mvalue, .int mfaultKind, .int mfaultPlace, .ref a14, .ref a15, .int mgoal, .int mgoalDays, .int mgoalHearer, .ref a19, .ref a20, .int mleastOrder, .int mwordsMany, .ref a23, .ref a24, .ref a25, .ref a26, .ref a27, .ref a28])), (a1, .inl (g.2 0, 225, .inl mworld)), (a27, .inl (g.2 3, 240, .inr (.inl mnumbers))), (a25, .inl (g.2 0, 4, .inl mmany))] H := hP
  have hD : va_D A [(h0, .inr (12, [.int mthrown, .ref a1, .ref a2, .ref a3, .ref a4, .int mtaped, .ref a6, .int msize, .int mat, .int mfrom, .int mtoken, .int mvalue, .int mfaultKind, .int mfaultPlace, .ref a14, .ref a15, .int mgoal, .int mgoalDays, .int mgoalHearer, .ref a19, .ref a20, .int mleastOrder, .int mwordsMany, .ref a23, .ref a24, .ref a25, .ref a26, .ref a27, .ref a28])), (a1, .inl (g.2 0, 225, .inl mworld)), (a27, .inl (g.2 3, 240, .inr (.inl mnumbers))), (a25, .inl (g.2 0, 4, .inl mmany))] := hD
  refine W.eq (g2 := F0 m 6 ls [.int (u1.1 0)]) rfl ?_
  rcases (show (u1.1 0).toInt < 0 ∨ (u1.1 0).toInt = 0 by omega) with c3 | c3
  · skip
    refine lv_istore_n (lv' := [(2, .int (u1.1 0)), (0, .ref h0), (1, .int p1)]) hx hb dX12_shames_6 rfl hl (by decide) rfl (fun ls hl => ?_)
    refine lv_iload_n hx hb dX12_shames_7 rfl (lv_at hl 0 rfl) ?_
    refine lv_if_ge (tgt := 13) hx hb dX12_shames_8 (by decide) (fun c4 => ?_) (fun c4 => ?_)
    · have c4 := k_le (a := 0) (b := (u1.1 0).toInt) (by decide) rfl c4
      exfalso; omega
    · have c4 := k_nle (a := 0) (b := (u1.1 0).toInt) (by decide) rfl c4
      refine lv_iload_n hx hb dX12_shames_11 rfl (lv_at hl 0 rfl) ?_
      exact rt_i FX ((fun k => match k with | 0 => u1.1 0 | _ => 0), (fun _ => fun _ => 0), (fun _ => fun _ => 0)) rfl trivial (hP.sub [0, 1, 2, 3] rfl) (hD.sub [0, 1, 2, 3] (by decide) rfl) hS (Nat.le_of_ble_eq_true rfl) (Nat.le_of_ble_eq_true rfl) dX12_shames_12
  · have hw5 := q2_1 c3
    have hw5b := hw5.2.1
    have hw5a := hw5.1
    refine lv_istore_n (lv' := [(2, .int (u1.1 0)), (0, .ref h0), (1, .int p1)]) hx hb dX12_shames_6 rfl hl (by decide) rfl (fun ls hl => ?_)
    refine lv_iload_n hx hb dX12_shames_7 rfl (lv_at hl 0 rfl) ?_
    refine lv_if_ge (tgt := 13) hx hb dX12_shames_8 (by decide) (fun c6 => ?_) (fun c6 => ?_)
    · have c6 := k_le (a := 0) (b := (u1.1 0).toInt) (by decide) rfl c6
      refine lv_iconst (v := 0) hx hb dX12_shames_13 (by decide) ?_
      refine lv_istore_n (lv' := [(3, .int 0), (2, .int (u1.1 0)), (0, .ref h0), (1, .int p1)]) hx hb dX12_shames_14 rfl hl (by decide) rfl (fun ls hl => ?_)
      refine lv_iconst (v := 0) hx hb dX12_shames_15 (by decide) ?_
      refine lv_istore (lv' := [(4, .int 0), (3, .int 0), (2, .int (u1.1 0)), (0, .ref h0), (1, .int p1)]) hx hb dX12_shames_16 hl (by decide) rfl (fun ls hl => ?_)
      have lp87 : ∀ (n89 : Nat) (x85 : Int32) (x86 : Int32) (H : Heap) (locs : List Loc) (ls : Array Slot), 0 ≤ x85.toInt ∧ x85.toInt ≤ 10 → (10 - x85.toInt).toNat < n89 → va_P g.1 vwCl [(h0, .inr (12, [.int mthrown, .ref a1, .ref a2, .ref a3, .ref a4, .int mtaped, .ref a6, .int msize, .int mat, .int mfrom, .int mtoken, .int mvalue, .int mfaultKind, .int mfaultPlace, .ref a14, .ref a15, .int mgoal, .int mgoalDays, .int mgoalHearer, .ref a19, .ref a20, .int mleastOrder, .int mwordsMany, .ref a23, .ref a24, .ref a25, .ref a26, .ref a27, .ref a28])), (a1, .inl (g.2 0, 225, .inl mworld)), (a27, .inl (g.2 3, 240, .inr (.inl mnumbers))), (a25, .inl (g.2 0, 4, .inl mmany))] H → va_D A [(h0, .inr (12, [.int mthrown, .ref a1, .ref a2, .ref a3, .ref a4, .int mtaped, .ref a6, .int msize, .int mat, .int mfrom, .int mtoken, .int mvalue, .int mfaultKind, .int mfaultPlace, .ref a14, .ref a15, .int mgoal, .int mgoalDays, .int mgoalHearer, .ref a19, .ref a20, .int mleastOrder, .int mwordsMany, .ref a23, .ref a24, .ref a25, .ref a26, .ref a27, .ref a28])), (a1, .inl (g.2 0, 225, .inl mworld)), (a27, .inl (g.2 3, 240, .inr (.inl mnumbers))), (a25, .inl (g.2 0, 4, .inl mmany))] → va_S A s.heap H locs → lv_has ls 5 [(4, .int x85), (3, .int x86), (2, .int (u1.1 0)), (0, .ref h0), (1, .int p1)] → W p l e { frames := 4, cells := 0, slots := 0, locals := 92 } s m ([.ref h0, .int p1].toArray) below meth c H locs 0 0 (MQ below (QX (S := (Nat → Int32) × (Nat → Nat → Int32) × (Nat → Nat → Int64)) (fun u => some (.int (u.1 0))) (fun u => True) g (fun u => [(h0, .inr (12, [.int mthrown, .ref a1, .ref a2, .ref a3, .ref a4, .int mtaped, .ref a6, .int msize, .int mat, .int mfrom, .int mtoken, .int mvalue, .int mfaultKind, .int mfaultPlace, .ref a14, .ref a15, .int mgoal, .int mgoalDays, .int mgoalHearer, .ref a19, .ref a20, .int mleastOrder, .int mwordsMany, .ref a23, .ref a24, .ref a25, .ref a26, .ref a27, .ref a28])), (a1, .inl (g.2 0, 225, .inl mworld)), (a27, .inl (g.2 3, 240, .inr (.inl mnumbers))), (a25, .inl (g.2 0, 4, .inl mmany))]) A) ([.ref h0, .int p1].toArray) s 0 0 A) (F0 m 18 ls []) := by
        intro n89
        induction n89 with
        | zero =>
          intro x85 x86 H locs ls h_x85 hn90
          exact absurd hn90 (Nat.not_lt_zero _)
        | succ n89 ih88 =>
          intro x85 x86 H locs ls h_x85 hn90 hP hD hS hl
          refine lv_iload hx hb dX12_shames_18 (lv_at hl 0 rfl) ?_
          refine lv_aload_n hx hb dX12_shames_20 rfl (lv_at hl 3 rfl) ?_
          refine g_get (C := RX12) (T := TX12) (N := 29) (ci := 12) (v := .ref a25) FC hKn hP i_X12 0 rfl rfl 25 (by decide) b_934 rfl dX12_shames_21 ?_
          refine lv_iload_n hx hb dX12_shames_24 rfl (lv_at hl 4 rfl) ?_
          refine va_iald hx hb hKn.1 hP 3 0 rfl rfl (vp_in_iff.mpr ⟨by omega, by omega⟩) dX12_shames_25 ?_
          refine lv_topi (fun z91 e_z91 => ?_)
          have t_z91 : -1 ≤ z91.toInt ∧ z91.toInt ≤ 60 := by rw [e_z91]; exact i_mmany _ (clt (by omega) (by omega))
          have w_z91 : 0 ≤ z91.toInt ∧ z91.toInt ≤ 10 := by rw [e_z91]; exact hw5.2.1
          have q_z91 : z91.toInt = (mmany p1.toNatClampNeg).toInt := by rw [e_z91]
          refine lv_icmp_ge (tgt := 49) hx hb dX12_shames_26 (by decide) (fun c92 => ?_) (fun c92 => ?_)
          · have c92 := k_le (a := z91.toInt) (b := x85.toInt) rfl rfl c92
            refine lv_iload_n hx hb dX12_shames_49 rfl (lv_at hl 1 rfl) ?_
            exact rt_i FX ((fun k => match k with | 0 => x86 | _ => 0), (fun _ => fun _ => 0), (fun _ => fun _ => 0)) rfl trivial (hP.sub [0, 1, 2, 3] rfl) (hD.sub [0, 1, 2, 3] (by decide) rfl) hS (Nat.le_of_ble_eq_true rfl) (Nat.le_of_ble_eq_true rfl) dX12_shames_50
          · have c92 := k_nle (a := z91.toInt) (b := x85.toInt) rfl rfl c92
            refine lv_iload_n hx hb dX12_shames_29 rfl (lv_at hl 1 rfl) ?_
            refine lv_aload_n hx hb dX12_shames_30 rfl (lv_at hl 3 rfl) ?_
            refine lv_aload_n hx hb dX12_shames_31 rfl (lv_at hl 3 rfl) ?_
            refine lv_iload_n hx hb dX12_shames_32 rfl (lv_at hl 4 rfl) ?_
            refine lv_iload hx hb dX12_shames_33 (lv_at hl 0 rfl) ?_
            refine call_V (As := [.int p1, .int x85]) (rest := [.ref h0, .int x86]) (wr := []) FC hKn hZ (k_X12_toldAt l g h0 a1 a2 a3 a4 a6 a14 a15 a19 a20 a23 a24 a25 a26 a27 a28 mthrown mtaped msize mat mfrom mtoken mvalue mfaultKind mfaultPlace mgoal mgoalDays mgoalHearer mleastOrder mwordsMany mworld mnumbers mmany p1 x85 (by omega) (by omega) (by omega) (by omega) (by omega) (by omega) (by omega) (by omega) i_mworld i_mmany (by assumption) (by omega) (by omega)) m_yX12_toldAt b_941 (ci := 12) rfl rfl rfl hP hD hS hA [0, 1, 2, 3] [] rfl (by decide) rfl (by decide) (by decide) rfl hl.1 rfl (Nat.le_of_ble_eq_true rfl) dX12_shames_35 ⟨(Nat.le_of_ble_eq_true rfl), (Nat.le_of_ble_eq_true rfl)⟩ ⟨(Nat.le_of_ble_eq_true rfl), (Nat.le_of_ble_eq_true rfl)⟩ (fun u93 H locs q94 hP hD hS => ?_)
            obtain ⟨q94_0, q94_1, q94_2⟩ := q94
            have hP : va_P g.1 vwCl [(h0, .inr (12, [.int mthrown, .ref a1, .ref a2, .ref a3, .ref a4, .int mtaped, .ref a6, .int msize, .int mat, .int mfrom, .int mtoken, .int mvalue, .int mfaultKind, .int mfaultPlace, .ref a14, .ref a15, .int mgoal, .int mgoalDays, .int mgoalHearer, .ref a19, .ref a20, .int mleastOrder, .int mwordsMany, .ref a23, .ref a24, .ref a25, .ref a26, .ref a27, .ref a28])), (a1, .inl (g.2 0, 225, .inl mworld)), (a27, .inl (g.2 3, 240, .inr (.inl mnumbers))), (a25, .inl (g.2 0, 4, .inl mmany))] H := hP
            have hD : va_D A [(h0, .inr (12, [.int mthrown, .ref a1, .ref a2, .ref a3, .ref a4, .int mtaped, .ref a6, .int msize, .int mat, .int mfrom, .int mtoken, .int mvalue, .int mfaultKind, .int mfaultPlace, .ref a14, .ref a15, .int mgoal, .int mgoalDays, .int mgoalHearer, .ref a19, .ref a20, .int mleastOrder, .int mwordsMany, .ref a23, .ref a24, .ref a25, .ref a26, .ref a27, .ref a28])), (a1, .inl (g.2 0, 225, .inl mworld)), (a27, .inl (g.2 3, 240, .inr (.inl mnumbers))), (a25, .inl (g.2 0, 4, .inl mmany))] := hD
            refine W.eq (g2 := F0 m 38 ls [.int (u93.1 0), .ref h0, .int x86]) rfl ?_
            rw [q94_1] at q94_0
            rw [q94_1] at q94_2
            refine tp_i (v := tdF mnumbers p1 x85) q94_1 ?_
            refine call_V (As := [.int (tdF mnumbers p1 x85)]) (rest := [.int x86]) (wr := [(a27, .inl (g.2 3, 240, .inr (.inl mnumbers))), (a25, .inl (g.2 0, 4, .inl mmany))]) FC hKn hZ (k_X12_shameOf l g h0 a1 a2 a3 a4 a6 a14 a15 a19 a20 a23 a24 a25 a26 a27 a28 mthrown mtaped msize mat mfrom mtoken mvalue mfaultKind mfaultPlace mgoal mgoalDays mgoalHearer mleastOrder mwordsMany mworld (tdF mnumbers p1 x85) (by omega) (by omega) (by omega) (by omega) (by omega) (by omega) (by omega) (by omega) i_mworld (by omega)) m_yX12_shameOf b_944 (ci := 12) rfl rfl rfl hP hD hS hA [0, 1] [2, 3] rfl (by decide) rfl (by decide) (by decide) rfl hl.1 rfl (Nat.le_of_ble_eq_true rfl) dX12_shames_38 ⟨(Nat.le_of_ble_eq_true rfl), (Nat.le_of_ble_eq_true rfl)⟩ ⟨(Nat.le_of_ble_eq_true rfl), (Nat.le_of_ble_eq_true rfl)⟩ (fun u95 H locs q96 hP hD hS => ?_)
            have hP : va_P g.1 vwCl [(a27, .inl (g.2 3, 240, .inr (.inl mnumbers))), (a25, .inl (g.2 0, 4, .inl mmany)), (h0, .inr (12, [.int mthrown, .ref a1, .ref a2, .ref a3, .ref a4, .int mtaped, .ref a6, .int msize, .int mat, .int mfrom, .int mtoken, .int mvalue, .int mfaultKind, .int mfaultPlace, .ref a14, .ref a15, .int mgoal, .int mgoalDays, .int mgoalHearer, .ref a19, .ref a20, .int mleastOrder, .int mwordsMany, .ref a23, .ref a24, .ref a25, .ref a26, .ref a27, .ref a28])), (a1, .inl (g.2 0, 225, .inl mworld))] H := hP
            have hD : va_D A [(a27, .inl (g.2 3, 240, .inr (.inl mnumbers))), (a25, .inl (g.2 0, 4, .inl mmany)), (h0, .inr (12, [.int mthrown, .ref a1, .ref a2, .ref a3, .ref a4, .int mtaped, .ref a6, .int msize, .int mat, .int mfrom, .int mtoken, .int mvalue, .int mfaultKind, .int mfaultPlace, .ref a14, .ref a15, .int mgoal, .int mgoalDays, .int mgoalHearer, .ref a19, .ref a20, .int mleastOrder, .int mwordsMany, .ref a23, .ref a24, .ref a25, .ref a26, .ref a27, .ref a28])), (a1, .inl (g.2 0, 225, .inl mworld))] := hD
            refine W.eq (g2 := F0 m 41 ls [.int (u95.1 0), .int x86]) rfl ?_
            refine lv_iadd hx hb dX12_shames_41 ?_
            refine lv_topi (fun z97 e_z97 => ?_)
            refine lv_istore_n (lv' := [(3, .int z97), (4, .int x85), (2, .int (u1.1 0)), (0, .ref h0), (1, .int p1)]) hx hb dX12_shames_42 rfl hl (by decide) rfl (fun ls hl => ?_)
            obtain ⟨z98, e_z98⟩ : ∃ y : Int32, y = x85 + 1 := ⟨_, rfl⟩
            have t_z98 : z98.toInt = x85.toInt + 1 := by rw [e_z98]; exact addk (by decide) (by omega) (by omega)
            refine lv_iinc (v := z98) (lv' := [(4, .int z98), (3, .int z97), (2, .int (u1.1 0)), (0, .ref h0), (1, .int p1)]) hx hb dX12_shames_43 hl (k := 1) rfl (by rw [e_z98]; rfl) (by decide) rfl (fun ls hl => ?_)
            refine lv_goto (tgt := 18) hx hb dX12_shames_46 (by decide) ?_
            exact ih88 z98 z97 _ _ ls (by omega) (by omega) (hP.sub [2, 3, 0, 1] rfl) (hD.sub [2, 3, 0, 1] (by decide) rfl) hS (lv_sub hl [0, 1, 2, 3, 4] rfl)
      have kc0 : (0 : Int32).toInt = 0 := by decide
      exact lp87 _ (0 : Int32) (0 : Int32) _ _ ls (by decide) (Nat.lt_succ_self _) hP hD hS (lv_sub hl [0, 1, 2, 3, 4] rfl)
    · have c6 := k_nle (a := 0) (b := (u1.1 0).toInt) (by decide) rfl c6
      exfalso; omega
set_option maxRecDepth 100000 in
set_option maxHeartbeats 4000000 in
theorem k_X12_known (l : Launch) (g : GG) (h0 : Nat) (a1 : Nat) (a2 : Nat) (a3 : Nat) (a4 : Nat) (a6 : Nat) (a14 : Nat) (a15 : Nat) (a19 : Nat) (a20 : Nat) (a23 : Nat) (a24 : Nat) (a25 : Nat) (a26 : Nat) (a27 : Nat) (a28 : Nat) (mthrown : Int32) (mtaped : Int32) (msize : Int32) (mat : Int32) (mfrom : Int32) (mtoken : Int32) (mvalue : Int32) (mfaultKind : Int32) (mfaultPlace : Int32) (mgoal : Int32) (mgoalDays : Int32) (mgoalHearer : Int32) (mleastOrder : Int32) (mwordsMany : Int32) (mworld : Nat → Int32) (mnumbers : Nat → Int64) (mmany : Nat → Int32) (p1 : Int32) (i_mtaped : 0 ≤ mtaped.toInt ∧ mtaped.toInt ≤ 900) (i_msize : 0 ≤ msize.toInt ∧ msize.toInt ≤ 900) (i_mat : 0 ≤ mat.toInt ∧ mat.toInt ≤ 900) (i_mfrom : 0 ≤ mfrom.toInt ∧ mfrom.toInt ≤ 900) (i_mtoken : 0 ≤ mtoken.toInt ∧ mtoken.toInt ≤ 4) (i_mvalue : 0 ≤ mvalue.toInt ∧ mvalue.toInt ≤ 99999) (i_mgoalHearer : 0 ≤ mgoalHearer.toInt ∧ mgoalHearer.toInt ≤ 3) (i_mwordsMany : 0 ≤ mwordsMany.toInt ∧ mwordsMany.toInt ≤ 10) (i_mworld : wod mworld) (i_mmany : ab mmany 4 (-1) 60) : Ct l g yX12_known cX12_known 6 (some .int) { frames := 4, cells := 0, slots := 0, locals := 92 } [.ref h0, .int p1] [(h0, .inr (12, [.int mthrown, .ref a1, .ref a2, .ref a3, .ref a4, .int mtaped, .ref a6, .int msize, .int mat, .int mfrom, .int mtoken, .int mvalue, .int mfaultKind, .int mfaultPlace, .ref a14, .ref a15, .int mgoal, .int mgoalDays, .int mgoalHearer, .ref a19, .ref a20, .int mleastOrder, .int mwordsMany, .ref a23, .ref a24, .ref a25, .ref a26, .ref a27, .ref a28])), (a1, .inl (g.2 0, 225, .inl mworld)), (a27, .inl (g.2 3, 240, .inr (.inl mnumbers))), (a25, .inl (g.2 0, 4, .inl mmany))] (S := (Nat → Int32) × (Nat → Nat → Int32) × (Nat → Nat → Int64)) (fun u => some (.int (u.1 0))) (fun u => True) (fun u => [(h0, .inr (12, [.int mthrown, .ref a1, .ref a2, .ref a3, .ref a4, .int mtaped, .ref a6, .int msize, .int mat, .int mfrom, .int mtoken, .int mvalue, .int mfaultKind, .int mfaultPlace, .ref a14, .ref a15, .int mgoal, .int mgoalDays, .int mgoalHearer, .ref a19, .ref a20, .int mleastOrder, .int mwordsMany, .ref a23, .ref a24, .ref a25, .ref a26, .ref a27, .ref a28])), (a1, .inl (g.2 0, 225, .inl mworld)), (a27, .inl (g.2 3, 240, .inr (.inl mnumbers))), (a25, .inl (g.2 0, 4, .inl mmany))]) := by
  refine Ct.of (by decide) (Nat.le_of_ble_eq_true rfl) ?_
  intro p e s m below meth c A ls FX hP hD hS hl
  obtain ⟨FC, hr, hlk, hKn, hA, hnm, hZ⟩ := id FX
  have FC : CallFix p m c cX12_known 6 s _ BIG RX12 := FC
  obtain ⟨hx, hb, hml, hown, hB⟩ := id FC
  have hl : lv_has ls 6 [(0, .ref h0), (1, .int p1)] := hl
  refine lv_aload_n hx hb dX12_known_0 rfl (lv_at hl 0 rfl) ?_
  refine lv_iload_n hx hb dX12_known_1 rfl (lv_at hl 1 rfl) ?_
  refine lv_iconst (v := 1) hx hb dX12_known_2 (by decide) ?_
  have kc1 : (1 : Int32).toInt = 1 := by decide
  refine call_V (As := [.int p1, .int 1]) (rest := []) (wr := []) FC hKn hZ (k_X12_asksWeek l g h0 a1 a2 a3 a4 a6 a14 a15 a19 a20 a23 a24 a25 a26 a27 a28 mthrown mtaped msize mat mfrom mtoken mvalue mfaultKind mfaultPlace mgoal mgoalDays mgoalHearer mleastOrder mwordsMany mworld mnumbers mmany p1 ((1 : Int32)) (by omega) (by omega) (by omega) (by omega) (by omega) (by omega) (by omega) (by omega) i_mworld i_mmany (by omega)) m_yX12_asksWeek b_940 (ci := 12) rfl rfl rfl hP hD hS hA [0, 1, 2, 3] [] rfl (by decide) rfl (by decide) (by decide) rfl hl.1 rfl (Nat.le_of_ble_eq_true rfl) dX12_known_3 ⟨(Nat.le_of_ble_eq_true rfl), (Nat.le_of_ble_eq_true rfl)⟩ ⟨(Nat.le_of_ble_eq_true rfl), (Nat.le_of_ble_eq_true rfl)⟩ (fun u1 H locs q2 hP hD hS => ?_)
  obtain ⟨q2_0, q2_1, q2_2⟩ := q2
  have hP : va_P g.1 vwCl [(h0, .inr (12, [.int mthrown, .ref a1, .ref a2, .ref a3, .ref a4, .int mtaped, .ref a6, .int msize, .int mat, .int mfrom, .int mtoken, .int mvalue, .int mfaultKind, .int mfaultPlace, .ref a14, .ref a15, .int mgoal, .int mgoalDays, .int mgoalHearer, .ref a19, .ref a20, .int mleastOrder, .int mwordsMany, .ref a23, .ref a24, .ref a25, .ref a26, .ref a27, .ref a28])), (a1, .inl (g.2 0, 225, .inl mworld)), (a27, .inl (g.2 3, 240, .inr (.inl mnumbers))), (a25, .inl (g.2 0, 4, .inl mmany))] H := hP
  have hD : va_D A [(h0, .inr (12, [.int mthrown, .ref a1, .ref a2, .ref a3, .ref a4, .int mtaped, .ref a6, .int msize, .int mat, .int mfrom, .int mtoken, .int mvalue, .int mfaultKind, .int mfaultPlace, .ref a14, .ref a15, .int mgoal, .int mgoalDays, .int mgoalHearer, .ref a19, .ref a20, .int mleastOrder, .int mwordsMany, .ref a23, .ref a24, .ref a25, .ref a26, .ref a27, .ref a28])), (a1, .inl (g.2 0, 225, .inl mworld)), (a27, .inl (g.2 3, 240, .inr (.inl mnumbers))), (a25, .inl (g.2 0, 4, .inl mmany))] := hD
  refine W.eq (g2 := F0 m 6 ls [.int (u1.1 0)]) rfl ?_
  rcases (show (u1.1 0).toInt < 0 ∨ (u1.1 0).toInt = 0 by omega) with c3 | c3
  · skip
    refine lv_istore_n (lv' := [(2, .int (u1.1 0)), (0, .ref h0), (1, .int p1)]) hx hb dX12_known_6 rfl hl (by decide) rfl (fun ls hl => ?_)
    refine lv_iload_n hx hb dX12_known_7 rfl (lv_at hl 0 rfl) ?_
    refine lv_if_ge (tgt := 13) hx hb dX12_known_8 (by decide) (fun c4 => ?_) (fun c4 => ?_)
    · have c4 := k_le (a := 0) (b := (u1.1 0).toInt) (by decide) rfl c4
      exfalso; omega
    · have c4 := k_nle (a := 0) (b := (u1.1 0).toInt) (by decide) rfl c4
      refine lv_iload_n hx hb dX12_known_11 rfl (lv_at hl 0 rfl) ?_
      exact rt_i FX ((fun k => match k with | 0 => u1.1 0 | _ => 0), (fun _ => fun _ => 0), (fun _ => fun _ => 0)) rfl trivial (hP.sub [0, 1, 2, 3] rfl) (hD.sub [0, 1, 2, 3] (by decide) rfl) hS (Nat.le_of_ble_eq_true rfl) (Nat.le_of_ble_eq_true rfl) dX12_known_12
  · have hw5 := q2_1 c3
    have hw5b := hw5.2.1
    have hw5a := hw5.1
    refine lv_istore_n (lv' := [(2, .int (u1.1 0)), (0, .ref h0), (1, .int p1)]) hx hb dX12_known_6 rfl hl (by decide) rfl (fun ls hl => ?_)
    refine lv_iload_n hx hb dX12_known_7 rfl (lv_at hl 0 rfl) ?_
    refine lv_if_ge (tgt := 13) hx hb dX12_known_8 (by decide) (fun c6 => ?_) (fun c6 => ?_)
    · have c6 := k_le (a := 0) (b := (u1.1 0).toInt) (by decide) rfl c6
      refine lv_aload_n hx hb dX12_known_13 rfl (lv_at hl 1 rfl) ?_
      refine call_V (As := []) (rest := []) (wr := [(a27, .inl (g.2 3, 240, .inr (.inl mnumbers))), (a25, .inl (g.2 0, 4, .inl mmany))]) FC hKn hZ (k_X12_allStates l g h0 a1 a2 a3 a4 a6 a14 a15 a19 a20 a23 a24 a25 a26 a27 a28 mthrown mtaped msize mat mfrom mtoken mvalue mfaultKind mfaultPlace mgoal mgoalDays mgoalHearer mleastOrder mwordsMany mworld (by omega) (by omega) (by omega) (by omega) (by omega) (by omega) (by omega) (by omega) i_mworld) m_yX12_allStates b_806 (ci := 12) rfl rfl rfl hP hD hS hA [0, 1] [2, 3] rfl (by decide) rfl (by decide) (by decide) rfl hl.1 rfl (Nat.le_of_ble_eq_true rfl) dX12_known_14 ⟨(Nat.le_of_ble_eq_true rfl), (Nat.le_of_ble_eq_true rfl)⟩ ⟨(Nat.le_of_ble_eq_true rfl), (Nat.le_of_ble_eq_true rfl)⟩ (fun u7 H locs q8 hP hD hS => ?_)
      obtain ⟨q8_0, q8_1, q8_2⟩ := q8
      have hP : va_P g.1 vwCl [(a27, .inl (g.2 3, 240, .inr (.inl mnumbers))), (a25, .inl (g.2 0, 4, .inl mmany)), (h0, .inr (12, [.int mthrown, .ref a1, .ref a2, .ref a3, .ref a4, .int mtaped, .ref a6, .int msize, .int mat, .int mfrom, .int mtoken, .int mvalue, .int mfaultKind, .int mfaultPlace, .ref a14, .ref a15, .int mgoal, .int mgoalDays, .int mgoalHearer, .ref a19, .ref a20, .int mleastOrder, .int mwordsMany, .ref a23, .ref a24, .ref a25, .ref a26, .ref a27, .ref a28])), (a1, .inl (g.2 0, 225, .inl mworld))] H := hP
      have hD : va_D A [(a27, .inl (g.2 3, 240, .inr (.inl mnumbers))), (a25, .inl (g.2 0, 4, .inl mmany)), (h0, .inr (12, [.int mthrown, .ref a1, .ref a2, .ref a3, .ref a4, .int mtaped, .ref a6, .int msize, .int mat, .int mfrom, .int mtoken, .int mvalue, .int mfaultKind, .int mfaultPlace, .ref a14, .ref a15, .int mgoal, .int mgoalDays, .int mgoalHearer, .ref a19, .ref a20, .int mleastOrder, .int mwordsMany, .ref a23, .ref a24, .ref a25, .ref a26, .ref a27, .ref a28])), (a1, .inl (g.2 0, 225, .inl mworld))] := hD
      refine W.eq (g2 := F0 m 17 ls [.int (u7.1 0)]) rfl ?_
      rw [q8_1] at q8_0
      rw [q8_1] at q8_2
      refine tp_i (v := asF mworld) q8_1 ?_
      refine lv_istore_n (lv' := [(3, .int (asF mworld)), (2, .int (u1.1 0)), (0, .ref h0), (1, .int p1)]) hx hb dX12_known_17 rfl hl (by decide) rfl (fun ls hl => ?_)
      refine lv_iconst (v := -1) hx hb dX12_known_18 (by decide) ?_
      refine lv_istore (lv' := [(4, .int (-1)), (3, .int (asF mworld)), (2, .int (u1.1 0)), (0, .ref h0), (1, .int p1)]) hx hb dX12_known_19 hl (by decide) rfl (fun ls hl => ?_)
      refine lv_iconst (v := 0) hx hb dX12_known_21 (by decide) ?_
      refine lv_istore (lv' := [(5, .int 0), (4, .int (-1)), (3, .int (asF mworld)), (2, .int (u1.1 0)), (0, .ref h0), (1, .int p1)]) hx hb dX12_known_22 hl (by decide) rfl (fun ls hl => ?_)
      have lp133 : ∀ (n135 : Nat) (x130 : Int32) (x131 : Int32) (x132 : Int32) (H : Heap) (locs : List Loc) (ls : Array Slot), 0 ≤ x130.toInt ∧ x130.toInt ≤ 10 → -1 ≤ x131.toInt → 1 ≤ x132.toInt ∧ x132.toInt ≤ 255 → (10 - x130.toInt).toNat < n135 → va_P g.1 vwCl [(a27, .inl (g.2 3, 240, .inr (.inl mnumbers))), (a25, .inl (g.2 0, 4, .inl mmany)), (h0, .inr (12, [.int mthrown, .ref a1, .ref a2, .ref a3, .ref a4, .int mtaped, .ref a6, .int msize, .int mat, .int mfrom, .int mtoken, .int mvalue, .int mfaultKind, .int mfaultPlace, .ref a14, .ref a15, .int mgoal, .int mgoalDays, .int mgoalHearer, .ref a19, .ref a20, .int mleastOrder, .int mwordsMany, .ref a23, .ref a24, .ref a25, .ref a26, .ref a27, .ref a28])), (a1, .inl (g.2 0, 225, .inl mworld))] H → va_D A [(a27, .inl (g.2 3, 240, .inr (.inl mnumbers))), (a25, .inl (g.2 0, 4, .inl mmany)), (h0, .inr (12, [.int mthrown, .ref a1, .ref a2, .ref a3, .ref a4, .int mtaped, .ref a6, .int msize, .int mat, .int mfrom, .int mtoken, .int mvalue, .int mfaultKind, .int mfaultPlace, .ref a14, .ref a15, .int mgoal, .int mgoalDays, .int mgoalHearer, .ref a19, .ref a20, .int mleastOrder, .int mwordsMany, .ref a23, .ref a24, .ref a25, .ref a26, .ref a27, .ref a28])), (a1, .inl (g.2 0, 225, .inl mworld))] → va_S A s.heap H locs → lv_has ls 6 [(5, .int x130), (4, .int x131), (3, .int x132), (2, .int (u1.1 0)), (0, .ref h0), (1, .int p1)] → W p l e { frames := 4, cells := 0, slots := 0, locals := 92 } s m ([.ref h0, .int p1].toArray) below meth c H locs 0 0 (MQ below (QX (S := (Nat → Int32) × (Nat → Nat → Int32) × (Nat → Nat → Int64)) (fun u => some (.int (u.1 0))) (fun u => True) g (fun u => [(h0, .inr (12, [.int mthrown, .ref a1, .ref a2, .ref a3, .ref a4, .int mtaped, .ref a6, .int msize, .int mat, .int mfrom, .int mtoken, .int mvalue, .int mfaultKind, .int mfaultPlace, .ref a14, .ref a15, .int mgoal, .int mgoalDays, .int mgoalHearer, .ref a19, .ref a20, .int mleastOrder, .int mwordsMany, .ref a23, .ref a24, .ref a25, .ref a26, .ref a27, .ref a28])), (a1, .inl (g.2 0, 225, .inl mworld)), (a27, .inl (g.2 3, 240, .inr (.inl mnumbers))), (a25, .inl (g.2 0, 4, .inl mmany))]) A) ([.ref h0, .int p1].toArray) s 0 0 A) (F0 m 24 ls []) := by
        intro n135
        induction n135 with
        | zero =>
          intro x130 x131 x132 H locs ls h_x130 h_x131 h_x132 hn136
          exact absurd hn136 (Nat.not_lt_zero _)
        | succ n135 ih134 =>
          intro x130 x131 x132 H locs ls h_x130 h_x131 h_x132 hn136 hP hD hS hl
          refine lv_iload hx hb dX12_known_24 (lv_at hl 0 rfl) ?_
          refine lv_aload_n hx hb dX12_known_26 rfl (lv_at hl 4 rfl) ?_
          refine g_get (C := RX12) (T := TX12) (N := 29) (ci := 12) (v := .ref a25) FC hKn hP i_X12 2 rfl rfl 25 (by decide) b_934 rfl dX12_known_27 ?_
          refine lv_iload_n hx hb dX12_known_30 rfl (lv_at hl 5 rfl) ?_
          refine va_iald hx hb hKn.1 hP 1 0 rfl rfl (vp_in_iff.mpr ⟨by omega, by omega⟩) dX12_known_31 ?_
          refine lv_topi (fun z137 e_z137 => ?_)
          have t_z137 : -1 ≤ z137.toInt ∧ z137.toInt ≤ 60 := by rw [e_z137]; exact i_mmany _ (clt (by omega) (by omega))
          have w_z137 : 0 ≤ z137.toInt ∧ z137.toInt ≤ 10 := by rw [e_z137]; exact hw5.2.1
          have q_z137 : z137.toInt = (mmany p1.toNatClampNeg).toInt := by rw [e_z137]
          refine lv_icmp_ge (tgt := 81) hx hb dX12_known_32 (by decide) (fun c138 => ?_) (fun c138 => ?_)
          · have c138 := k_le (a := z137.toInt) (b := x130.toInt) rfl rfl c138
            refine lv_iload hx hb dX12_known_81 (lv_at hl 1 rfl) ?_
            exact rt_i FX ((fun k => match k with | 0 => x131 | _ => 0), (fun _ => fun _ => 0), (fun _ => fun _ => 0)) rfl trivial (hP.sub [2, 3, 0, 1] rfl) (hD.sub [2, 3, 0, 1] (by decide) rfl) hS (Nat.le_of_ble_eq_true rfl) (Nat.le_of_ble_eq_true rfl) dX12_known_83
          · have c138 := k_nle (a := z137.toInt) (b := x130.toInt) rfl rfl c138
            refine lv_aload_n hx hb dX12_known_35 rfl (lv_at hl 4 rfl) ?_
            refine lv_iload_n hx hb dX12_known_36 rfl (lv_at hl 2 rfl) ?_
            refine lv_aload_n hx hb dX12_known_37 rfl (lv_at hl 4 rfl) ?_
            refine lv_iload_n hx hb dX12_known_38 rfl (lv_at hl 5 rfl) ?_
            refine lv_iload hx hb dX12_known_39 (lv_at hl 0 rfl) ?_
            refine call_V (As := [.int p1, .int x130]) (rest := [.int x132, .ref h0]) (wr := []) FC hKn hZ (k_X12_toldAt l g h0 a1 a2 a3 a4 a6 a14 a15 a19 a20 a23 a24 a25 a26 a27 a28 mthrown mtaped msize mat mfrom mtoken mvalue mfaultKind mfaultPlace mgoal mgoalDays mgoalHearer mleastOrder mwordsMany mworld mnumbers mmany p1 x130 (by omega) (by omega) (by omega) (by omega) (by omega) (by omega) (by omega) (by omega) i_mworld i_mmany (by assumption) (by omega) (by omega)) m_yX12_toldAt b_941 (ci := 12) rfl rfl rfl hP hD hS hA [2, 3, 0, 1] [] rfl (by decide) rfl (by decide) (by decide) rfl hl.1 rfl (Nat.le_of_ble_eq_true rfl) dX12_known_41 ⟨(Nat.le_of_ble_eq_true rfl), (Nat.le_of_ble_eq_true rfl)⟩ ⟨(Nat.le_of_ble_eq_true rfl), (Nat.le_of_ble_eq_true rfl)⟩ (fun u139 H locs q140 hP hD hS => ?_)
            obtain ⟨q140_0, q140_1, q140_2⟩ := q140
            have hP : va_P g.1 vwCl [(h0, .inr (12, [.int mthrown, .ref a1, .ref a2, .ref a3, .ref a4, .int mtaped, .ref a6, .int msize, .int mat, .int mfrom, .int mtoken, .int mvalue, .int mfaultKind, .int mfaultPlace, .ref a14, .ref a15, .int mgoal, .int mgoalDays, .int mgoalHearer, .ref a19, .ref a20, .int mleastOrder, .int mwordsMany, .ref a23, .ref a24, .ref a25, .ref a26, .ref a27, .ref a28])), (a1, .inl (g.2 0, 225, .inl mworld)), (a27, .inl (g.2 3, 240, .inr (.inl mnumbers))), (a25, .inl (g.2 0, 4, .inl mmany))] H := hP
            have hD : va_D A [(h0, .inr (12, [.int mthrown, .ref a1, .ref a2, .ref a3, .ref a4, .int mtaped, .ref a6, .int msize, .int mat, .int mfrom, .int mtoken, .int mvalue, .int mfaultKind, .int mfaultPlace, .ref a14, .ref a15, .int mgoal, .int mgoalDays, .int mgoalHearer, .ref a19, .ref a20, .int mleastOrder, .int mwordsMany, .ref a23, .ref a24, .ref a25, .ref a26, .ref a27, .ref a28])), (a1, .inl (g.2 0, 225, .inl mworld)), (a27, .inl (g.2 3, 240, .inr (.inl mnumbers))), (a25, .inl (g.2 0, 4, .inl mmany))] := hD
            refine W.eq (g2 := F0 m 44 ls [.int (u139.1 0), .int x132, .ref h0]) rfl ?_
            rw [q140_1] at q140_0
            rw [q140_1] at q140_2
            refine tp_i (v := tdF mnumbers p1 x130) q140_1 ?_
            refine call_V (As := [.int x132, .int (tdF mnumbers p1 x130)]) (rest := []) (wr := [(a27, .inl (g.2 3, 240, .inr (.inl mnumbers))), (a25, .inl (g.2 0, 4, .inl mmany))]) FC hKn hZ (k_X12_behindOf l g h0 a1 a2 a3 a4 a6 a14 a15 a19 a20 a23 a24 a25 a26 a27 a28 mthrown mtaped msize mat mfrom mtoken mvalue mfaultKind mfaultPlace mgoal mgoalDays mgoalHearer mleastOrder mwordsMany mworld x132 (tdF mnumbers p1 x130) (by omega) (by omega) (by omega) (by omega) (by omega) (by omega) (by omega) (by omega) i_mworld (by omega) (by omega) (by omega)) m_yX12_behindOf b_854 (ci := 12) rfl rfl rfl hP hD hS hA [0, 1] [2, 3] rfl (by decide) rfl (by decide) (by decide) rfl hl.1 rfl (Nat.le_of_ble_eq_true rfl) dX12_known_44 ⟨(Nat.le_of_ble_eq_true rfl), (Nat.le_of_ble_eq_true rfl)⟩ ⟨(Nat.le_of_ble_eq_true rfl), (Nat.le_of_ble_eq_true rfl)⟩ (fun u141 H locs q142 hP hD hS => ?_)
            have q142_0 : 1 ≤ (u141.1 0).toInt ∧ (u141.1 0).toInt ≤ 255 := q142
            have hP : va_P g.1 vwCl [(a27, .inl (g.2 3, 240, .inr (.inl mnumbers))), (a25, .inl (g.2 0, 4, .inl mmany)), (h0, .inr (12, [.int mthrown, .ref a1, .ref a2, .ref a3, .ref a4, .int mtaped, .ref a6, .int msize, .int mat, .int mfrom, .int mtoken, .int mvalue, .int mfaultKind, .int mfaultPlace, .ref a14, .ref a15, .int mgoal, .int mgoalDays, .int mgoalHearer, .ref a19, .ref a20, .int mleastOrder, .int mwordsMany, .ref a23, .ref a24, .ref a25, .ref a26, .ref a27, .ref a28])), (a1, .inl (g.2 0, 225, .inl mworld))] H := hP
            have hD : va_D A [(a27, .inl (g.2 3, 240, .inr (.inl mnumbers))), (a25, .inl (g.2 0, 4, .inl mmany)), (h0, .inr (12, [.int mthrown, .ref a1, .ref a2, .ref a3, .ref a4, .int mtaped, .ref a6, .int msize, .int mat, .int mfrom, .int mtoken, .int mvalue, .int mfaultKind, .int mfaultPlace, .ref a14, .ref a15, .int mgoal, .int mgoalDays, .int mgoalHearer, .ref a19, .ref a20, .int mleastOrder, .int mwordsMany, .ref a23, .ref a24, .ref a25, .ref a26, .ref a27, .ref a28])), (a1, .inl (g.2 0, 225, .inl mworld))] := hD
            refine W.eq (g2 := F0 m 47 ls [.int (u141.1 0)]) rfl ?_
            refine lv_istore_n (lv' := [(3, .int (u141.1 0)), (5, .int x130), (4, .int x131), (2, .int (u1.1 0)), (0, .ref h0), (1, .int p1)]) hx hb dX12_known_47 rfl hl (by decide) rfl (fun ls hl => ?_)
            refine lv_iload_n hx hb dX12_known_48 rfl (lv_at hl 0 rfl) ?_
            refine lv_aload_n hx hb dX12_known_49 rfl (lv_at hl 4 rfl) ?_
            refine call_V (As := []) (rest := [.int (u141.1 0)]) (wr := [(a27, .inl (g.2 3, 240, .inr (.inl mnumbers))), (a25, .inl (g.2 0, 4, .inl mmany))]) FC hKn hZ (k_X12_reallySet l g h0 a1 a2 a3 a4 a6 a14 a15 a19 a20 a23 a24 a25 a26 a27 a28 mthrown mtaped msize mat mfrom mtoken mvalue mfaultKind mfaultPlace mgoal mgoalDays mgoalHearer mleastOrder mwordsMany mworld (by omega) (by omega) (by omega) (by omega) (by omega) (by omega) (by omega) (by omega) i_mworld) m_yX12_reallySet b_945 (ci := 12) rfl rfl rfl hP hD hS hA [2, 3] [0, 1] rfl (by decide) rfl (by decide) (by decide) rfl hl.1 rfl (Nat.le_of_ble_eq_true rfl) dX12_known_50 ⟨(Nat.le_of_ble_eq_true rfl), (Nat.le_of_ble_eq_true rfl)⟩ ⟨(Nat.le_of_ble_eq_true rfl), (Nat.le_of_ble_eq_true rfl)⟩ (fun u143 H locs q144 hP hD hS => ?_)
            have q144_0 : 1 ≤ (u143.1 0).toInt ∧ (u143.1 0).toInt ≤ 128 := q144
            have hP : va_P g.1 vwCl [(a27, .inl (g.2 3, 240, .inr (.inl mnumbers))), (a25, .inl (g.2 0, 4, .inl mmany)), (h0, .inr (12, [.int mthrown, .ref a1, .ref a2, .ref a3, .ref a4, .int mtaped, .ref a6, .int msize, .int mat, .int mfrom, .int mtoken, .int mvalue, .int mfaultKind, .int mfaultPlace, .ref a14, .ref a15, .int mgoal, .int mgoalDays, .int mgoalHearer, .ref a19, .ref a20, .int mleastOrder, .int mwordsMany, .ref a23, .ref a24, .ref a25, .ref a26, .ref a27, .ref a28])), (a1, .inl (g.2 0, 225, .inl mworld))] H := hP
            have hD : va_D A [(a27, .inl (g.2 3, 240, .inr (.inl mnumbers))), (a25, .inl (g.2 0, 4, .inl mmany)), (h0, .inr (12, [.int mthrown, .ref a1, .ref a2, .ref a3, .ref a4, .int mtaped, .ref a6, .int msize, .int mat, .int mfrom, .int mtoken, .int mvalue, .int mfaultKind, .int mfaultPlace, .ref a14, .ref a15, .int mgoal, .int mgoalDays, .int mgoalHearer, .ref a19, .ref a20, .int mleastOrder, .int mwordsMany, .ref a23, .ref a24, .ref a25, .ref a26, .ref a27, .ref a28])), (a1, .inl (g.2 0, 225, .inl mworld))] := hD
            refine W.eq (g2 := F0 m 53 ls [.int (u143.1 0), .int (u141.1 0)]) rfl ?_
            refine lv_icmp_eq (tgt := 60) hx hb dX12_known_53 (by decide) (fun c145 => ?_) (fun c145 => ?_)
            · have c145 := k_eq (a := (u141.1 0).toInt) (b := (u143.1 0).toInt) rfl rfl c145
              refine lv_iload hx hb dX12_known_60 (lv_at hl 2 rfl) ?_
              refine lv_iconst (v := -1) hx hb dX12_known_62 (by decide) ?_
              refine lv_icmp_ne (tgt := 71) hx hb dX12_known_63 (by decide) (fun c146 => ?_) (fun c146 => ?_)
              · have c146 := k_ne (a := x131.toInt) (b := -1) rfl (by decide) c146
                refine lv_iload hx hb dX12_known_71 (lv_at hl 2 rfl) ?_
                refine lv_istore (lv' := [(4, .int x131), (3, .int (u141.1 0)), (5, .int x130), (2, .int (u1.1 0)), (0, .ref h0), (1, .int p1)]) hx hb dX12_known_73 hl (by decide) rfl (fun ls hl => ?_)
                obtain ⟨z147, e_z147⟩ : ∃ y : Int32, y = x130 + 1 := ⟨_, rfl⟩
                have t_z147 : z147.toInt = x130.toInt + 1 := by rw [e_z147]; exact addk (by decide) (by omega) (by omega)
                refine lv_iinc (v := z147) (lv' := [(5, .int z147), (4, .int x131), (3, .int (u141.1 0)), (2, .int (u1.1 0)), (0, .ref h0), (1, .int p1)]) hx hb dX12_known_75 hl (k := 2) rfl (by rw [e_z147]; rfl) (by decide) rfl (fun ls hl => ?_)
                refine lv_goto (tgt := 24) hx hb dX12_known_78 (by decide) ?_
                exact ih134 z147 x131 (u141.1 0) _ _ ls (by omega) (by omega) (by omega) (by omega) hP hD hS (lv_sub hl [0, 1, 2, 3, 4, 5] rfl)
              · have c146 := k_eq (a := x131.toInt) (b := -1) rfl (by decide) c146
                refine lv_iload hx hb dX12_known_66 (lv_at hl 1 rfl) ?_
                refine lv_goto (tgt := 73) hx hb dX12_known_68 (by decide) ?_
                refine lv_istore (lv' := [(4, .int x130), (3, .int (u141.1 0)), (5, .int x130), (2, .int (u1.1 0)), (0, .ref h0), (1, .int p1)]) hx hb dX12_known_73 hl (by decide) rfl (fun ls hl => ?_)
                obtain ⟨z148, e_z148⟩ : ∃ y : Int32, y = x130 + 1 := ⟨_, rfl⟩
                have t_z148 : z148.toInt = x130.toInt + 1 := by rw [e_z148]; exact addk (by decide) (by omega) (by omega)
                refine lv_iinc (v := z148) (lv' := [(5, .int z148), (4, .int x130), (3, .int (u141.1 0)), (2, .int (u1.1 0)), (0, .ref h0), (1, .int p1)]) hx hb dX12_known_75 hl (k := 2) rfl (by rw [e_z148]; rfl) (by decide) rfl (fun ls hl => ?_)
                refine lv_goto (tgt := 24) hx hb dX12_known_78 (by decide) ?_
                exact ih134 z148 x130 (u141.1 0) _ _ ls (by omega) (by omega) (by omega) (by omega) hP hD hS (lv_sub hl [0, 1, 2, 3, 4, 5] rfl)
            · have c145 := k_ne (a := (u141.1 0).toInt) (b := (u143.1 0).toInt) rfl rfl c145
              refine lv_iconst (v := -1) hx hb dX12_known_56 (by decide) ?_
              refine lv_goto (tgt := 73) hx hb dX12_known_57 (by decide) ?_
              refine lv_istore (lv' := [(4, .int (-1)), (3, .int (u141.1 0)), (5, .int x130), (2, .int (u1.1 0)), (0, .ref h0), (1, .int p1)]) hx hb dX12_known_73 hl (by decide) rfl (fun ls hl => ?_)
              obtain ⟨z149, e_z149⟩ : ∃ y : Int32, y = x130 + 1 := ⟨_, rfl⟩
              have t_z149 : z149.toInt = x130.toInt + 1 := by rw [e_z149]; exact addk (by decide) (by omega) (by omega)
              refine lv_iinc (v := z149) (lv' := [(5, .int z149), (4, .int (-1)), (3, .int (u141.1 0)), (2, .int (u1.1 0)), (0, .ref h0), (1, .int p1)]) hx hb dX12_known_75 hl (k := 2) rfl (by rw [e_z149]; rfl) (by decide) rfl (fun ls hl => ?_)
              refine lv_goto (tgt := 24) hx hb dX12_known_78 (by decide) ?_
              have kcm1 : (-1 : Int32).toInt = -1 := by decide
              exact ih134 z149 (-1 : Int32) (u141.1 0) _ _ ls (by omega) (by decide) (by omega) (by omega) hP hD hS (lv_sub hl [0, 1, 2, 3, 4, 5] rfl)
      have kc0 : (0 : Int32).toInt = 0 := by decide
      have kcm1 : (-1 : Int32).toInt = -1 := by decide
      exact lp133 _ (0 : Int32) (-1 : Int32) (asF mworld) _ _ ls (by decide) (by decide) (by omega) (Nat.lt_succ_self _) hP hD hS (lv_sub hl [0, 1, 2, 3, 4, 5] rfl)
    · have c6 := k_nle (a := 0) (b := (u1.1 0).toInt) (by decide) rfl c6
      exfalso; omega
set_option maxRecDepth 100000 in
set_option maxHeartbeats 4000000 in
theorem k_X12_hope (l : Launch) (g : GG) (h0 : Nat) (a1 : Nat) (a2 : Nat) (a3 : Nat) (a4 : Nat) (a6 : Nat) (a14 : Nat) (a15 : Nat) (a19 : Nat) (a20 : Nat) (a23 : Nat) (a24 : Nat) (a25 : Nat) (a26 : Nat) (a27 : Nat) (a28 : Nat) (mthrown : Int32) (mtaped : Int32) (msize : Int32) (mat : Int32) (mfrom : Int32) (mtoken : Int32) (mvalue : Int32) (mfaultKind : Int32) (mfaultPlace : Int32) (mgoal : Int32) (mgoalDays : Int32) (mgoalHearer : Int32) (mleastOrder : Int32) (mwordsMany : Int32) (mworld : Nat → Int32) (mnumbers : Nat → Int64) (mmany : Nat → Int32) (p1 : Int32) (p2 : Int32) (p3 : Int32) (p4 : Int32) (i_mtaped : 0 ≤ mtaped.toInt ∧ mtaped.toInt ≤ 900) (i_msize : 0 ≤ msize.toInt ∧ msize.toInt ≤ 900) (i_mat : 0 ≤ mat.toInt ∧ mat.toInt ≤ 900) (i_mfrom : 0 ≤ mfrom.toInt ∧ mfrom.toInt ≤ 900) (i_mtoken : 0 ≤ mtoken.toInt ∧ mtoken.toInt ≤ 4) (i_mvalue : 0 ≤ mvalue.toInt ∧ mvalue.toInt ≤ 99999) (i_mgoalHearer : 0 ≤ mgoalHearer.toInt ∧ mgoalHearer.toInt ≤ 3) (i_mwordsMany : 0 ≤ mwordsMany.toInt ∧ mwordsMany.toInt ≤ 10) (i_mworld : wod mworld) (i_mmany : ab mmany 4 (-1) 60) : Ct l g yX12_hope cX12_hope 8 (some .int) { frames := 4, cells := 0, slots := 0, locals := 92 } [.ref h0, .int p1, .int p2, .int p3, .int p4] [(h0, .inr (12, [.int mthrown, .ref a1, .ref a2, .ref a3, .ref a4, .int mtaped, .ref a6, .int msize, .int mat, .int mfrom, .int mtoken, .int mvalue, .int mfaultKind, .int mfaultPlace, .ref a14, .ref a15, .int mgoal, .int mgoalDays, .int mgoalHearer, .ref a19, .ref a20, .int mleastOrder, .int mwordsMany, .ref a23, .ref a24, .ref a25, .ref a26, .ref a27, .ref a28])), (a1, .inl (g.2 0, 225, .inl mworld)), (a27, .inl (g.2 3, 240, .inr (.inl mnumbers))), (a25, .inl (g.2 0, 4, .inl mmany))] (S := (Nat → Int32) × (Nat → Nat → Int32) × (Nat → Nat → Int64)) (fun u => some (.int (u.1 0))) (fun u => True) (fun u => [(h0, .inr (12, [.int mthrown, .ref a1, .ref a2, .ref a3, .ref a4, .int mtaped, .ref a6, .int msize, .int mat, .int mfrom, .int mtoken, .int mvalue, .int mfaultKind, .int mfaultPlace, .ref a14, .ref a15, .int mgoal, .int mgoalDays, .int mgoalHearer, .ref a19, .ref a20, .int mleastOrder, .int mwordsMany, .ref a23, .ref a24, .ref a25, .ref a26, .ref a27, .ref a28])), (a1, .inl (g.2 0, 225, .inl mworld)), (a27, .inl (g.2 3, 240, .inr (.inl mnumbers))), (a25, .inl (g.2 0, 4, .inl mmany))]) := by
  refine Ct.of (by decide) (Nat.le_of_ble_eq_true rfl) ?_
  intro p e s m below meth c A ls FX hP hD hS hl
  obtain ⟨FC, hr, hlk, hKn, hA, hnm, hZ⟩ := id FX
  have FC : CallFix p m c cX12_hope 8 s _ BIG RX12 := FC
  obtain ⟨hx, hb, hml, hown, hB⟩ := id FC
  have hl : lv_has ls 8 [(0, .ref h0), (1, .int p1), (2, .int p2), (3, .int p3), (4, .int p4)] := hl
  refine lv_aload_n hx hb dX12_hope_0 rfl (lv_at hl 0 rfl) ?_
  refine lv_iload_n hx hb dX12_hope_1 rfl (lv_at hl 1 rfl) ?_
  refine lv_aload_n hx hb dX12_hope_2 rfl (lv_at hl 0 rfl) ?_
  refine lv_iload_n hx hb dX12_hope_3 rfl (lv_at hl 2 rfl) ?_
  refine call_V (As := [.int p2]) (rest := [.int p1, .ref h0]) (wr := [(a27, .inl (g.2 3, 240, .inr (.inl mnumbers))), (a25, .inl (g.2 0, 4, .inl mmany))]) FC hKn hZ (k_X12_isHearer l g h0 a1 a2 a3 a4 a6 a14 a15 a19 a20 a23 a24 a25 a26 a27 a28 mthrown mtaped msize mat mfrom mtoken mvalue mfaultKind mfaultPlace mgoal mgoalDays mgoalHearer mleastOrder mwordsMany mworld p2 (by omega) (by omega) (by omega) (by omega) (by omega) (by omega) (by omega) (by omega) i_mworld) m_yX12_isHearer b_881 (ci := 12) rfl rfl rfl hP hD hS hA [0, 1] [2, 3] rfl (by decide) rfl (by decide) (by decide) rfl hl.1 rfl (Nat.le_of_ble_eq_true rfl) dX12_hope_4 ⟨(Nat.le_of_ble_eq_true rfl), (Nat.le_of_ble_eq_true rfl)⟩ ⟨(Nat.le_of_ble_eq_true rfl), (Nat.le_of_ble_eq_true rfl)⟩ (fun u1 H locs q2 hP hD hS => ?_)
  obtain ⟨q2_0, q2_1⟩ := q2
  have hP : va_P g.1 vwCl [(a27, .inl (g.2 3, 240, .inr (.inl mnumbers))), (a25, .inl (g.2 0, 4, .inl mmany)), (h0, .inr (12, [.int mthrown, .ref a1, .ref a2, .ref a3, .ref a4, .int mtaped, .ref a6, .int msize, .int mat, .int mfrom, .int mtoken, .int mvalue, .int mfaultKind, .int mfaultPlace, .ref a14, .ref a15, .int mgoal, .int mgoalDays, .int mgoalHearer, .ref a19, .ref a20, .int mleastOrder, .int mwordsMany, .ref a23, .ref a24, .ref a25, .ref a26, .ref a27, .ref a28])), (a1, .inl (g.2 0, 225, .inl mworld))] H := hP
  have hD : va_D A [(a27, .inl (g.2 3, 240, .inr (.inl mnumbers))), (a25, .inl (g.2 0, 4, .inl mmany)), (h0, .inr (12, [.int mthrown, .ref a1, .ref a2, .ref a3, .ref a4, .int mtaped, .ref a6, .int msize, .int mat, .int mfrom, .int mtoken, .int mvalue, .int mfaultKind, .int mfaultPlace, .ref a14, .ref a15, .int mgoal, .int mgoalDays, .int mgoalHearer, .ref a19, .ref a20, .int mleastOrder, .int mwordsMany, .ref a23, .ref a24, .ref a25, .ref a26, .ref a27, .ref a28])), (a1, .inl (g.2 0, 225, .inl mworld))] := hD
  refine W.eq (g2 := F0 m 7 ls [.int (u1.1 0), .int p1, .ref h0]) rfl ?_
  rcases (show (u1.1 0).toInt = 0 ∨ (u1.1 0).toInt = 1 by omega) with c3 | c3
  · skip
    refine lv_if_eq (tgt := 33) hx hb dX12_hope_7 (by decide) (fun c4 => ?_) (fun c4 => ?_)
    · have c4 := k_eq (a := (u1.1 0).toInt) (b := 0) rfl (by decide) c4
      refine lv_iconst (v := 0) hx hb dX12_hope_33 (by decide) ?_
      have kc0 : (0 : Int32).toInt = 0 := by decide
      refine call_V (As := [.int p1, .int 0]) (rest := []) (wr := []) FC hKn hZ (k_X12_asksWeek l g h0 a1 a2 a3 a4 a6 a14 a15 a19 a20 a23 a24 a25 a26 a27 a28 mthrown mtaped msize mat mfrom mtoken mvalue mfaultKind mfaultPlace mgoal mgoalDays mgoalHearer mleastOrder mwordsMany mworld mnumbers mmany p1 ((0 : Int32)) (by omega) (by omega) (by omega) (by omega) (by omega) (by omega) (by omega) (by omega) i_mworld i_mmany (by omega)) m_yX12_asksWeek b_940 (ci := 12) rfl rfl rfl hP hD hS hA [2, 3, 0, 1] [] rfl (by decide) rfl (by decide) (by decide) rfl hl.1 rfl (Nat.le_of_ble_eq_true rfl) dX12_hope_34 ⟨(Nat.le_of_ble_eq_true rfl), (Nat.le_of_ble_eq_true rfl)⟩ ⟨(Nat.le_of_ble_eq_true rfl), (Nat.le_of_ble_eq_true rfl)⟩ (fun u5 H locs q6 hP hD hS => ?_)
      obtain ⟨q6_0, q6_1, q6_2⟩ := q6
      have hP : va_P g.1 vwCl [(h0, .inr (12, [.int mthrown, .ref a1, .ref a2, .ref a3, .ref a4, .int mtaped, .ref a6, .int msize, .int mat, .int mfrom, .int mtoken, .int mvalue, .int mfaultKind, .int mfaultPlace, .ref a14, .ref a15, .int mgoal, .int mgoalDays, .int mgoalHearer, .ref a19, .ref a20, .int mleastOrder, .int mwordsMany, .ref a23, .ref a24, .ref a25, .ref a26, .ref a27, .ref a28])), (a1, .inl (g.2 0, 225, .inl mworld)), (a27, .inl (g.2 3, 240, .inr (.inl mnumbers))), (a25, .inl (g.2 0, 4, .inl mmany))] H := hP
      have hD : va_D A [(h0, .inr (12, [.int mthrown, .ref a1, .ref a2, .ref a3, .ref a4, .int mtaped, .ref a6, .int msize, .int mat, .int mfrom, .int mtoken, .int mvalue, .int mfaultKind, .int mfaultPlace, .ref a14, .ref a15, .int mgoal, .int mgoalDays, .int mgoalHearer, .ref a19, .ref a20, .int mleastOrder, .int mwordsMany, .ref a23, .ref a24, .ref a25, .ref a26, .ref a27, .ref a28])), (a1, .inl (g.2 0, 225, .inl mworld)), (a27, .inl (g.2 3, 240, .inr (.inl mnumbers))), (a25, .inl (g.2 0, 4, .inl mmany))] := hD
      refine W.eq (g2 := F0 m 37 ls [.int (u5.1 0)]) rfl ?_
      rcases (show (u5.1 0).toInt < 0 ∨ (u5.1 0).toInt = 0 by omega) with c7 | c7
      · skip
        refine lv_istore (lv' := [(5, .int (u5.1 0)), (0, .ref h0), (1, .int p1), (2, .int p2), (3, .int p3), (4, .int p4)]) hx hb dX12_hope_37 hl (by decide) rfl (fun ls hl => ?_)
        refine lv_iload hx hb dX12_hope_39 (lv_at hl 0 rfl) ?_
        refine lv_if_ge (tgt := 47) hx hb dX12_hope_41 (by decide) (fun c8 => ?_) (fun c8 => ?_)
        · have c8 := k_le (a := 0) (b := (u5.1 0).toInt) (by decide) rfl c8
          exfalso; omega
        · have c8 := k_nle (a := 0) (b := (u5.1 0).toInt) (by decide) rfl c8
          refine lv_iload hx hb dX12_hope_44 (lv_at hl 0 rfl) ?_
          exact rt_i FX ((fun k => match k with | 0 => u5.1 0 | _ => 0), (fun _ => fun _ => 0), (fun _ => fun _ => 0)) rfl trivial (hP.sub [0, 1, 2, 3] rfl) (hD.sub [0, 1, 2, 3] (by decide) rfl) hS (Nat.le_of_ble_eq_true rfl) (Nat.le_of_ble_eq_true rfl) dX12_hope_46
      · have c7_2 := q6_2 c7
        exfalso; omega
    · have c4 := k_ne (a := (u1.1 0).toInt) (b := 0) rfl (by decide) c4
      exfalso; omega
  · have c3_r := q2_1 c3
    refine lv_if_eq (tgt := 33) hx hb dX12_hope_7 (by decide) (fun c9 => ?_) (fun c9 => ?_)
    · have c9 := k_eq (a := (u1.1 0).toInt) (b := 0) rfl (by decide) c9
      exfalso; omega
    · have c9 := k_ne (a := (u1.1 0).toInt) (b := 0) rfl (by decide) c9
      refine lv_aload_n hx hb dX12_hope_10 rfl (lv_at hl 0 rfl) ?_
      refine lv_iload_n hx hb dX12_hope_11 rfl (lv_at hl 3 rfl) ?_
      refine call_V (As := [.int p3]) (rest := [.int p1, .ref h0]) (wr := [(a27, .inl (g.2 3, 240, .inr (.inl mnumbers))), (a25, .inl (g.2 0, 4, .inl mmany))]) FC hKn hZ (k_X12_isState l g h0 a1 a2 a3 a4 a6 a14 a15 a19 a20 a23 a24 a25 a26 a27 a28 mthrown mtaped msize mat mfrom mtoken mvalue mfaultKind mfaultPlace mgoal mgoalDays mgoalHearer mleastOrder mwordsMany mworld p3 (by omega) (by omega) (by omega) (by omega) (by omega) (by omega) (by omega) (by omega) i_mworld) m_yX12_isState b_880 (ci := 12) rfl rfl rfl hP hD hS hA [2, 3] [0, 1] rfl (by decide) rfl (by decide) (by decide) rfl hl.1 rfl (Nat.le_of_ble_eq_true rfl) dX12_hope_12 ⟨(Nat.le_of_ble_eq_true rfl), (Nat.le_of_ble_eq_true rfl)⟩ ⟨(Nat.le_of_ble_eq_true rfl), (Nat.le_of_ble_eq_true rfl)⟩ (fun u10 H locs q11 hP hD hS => ?_)
      obtain ⟨q11_0, q11_1⟩ := q11
      have hP : va_P g.1 vwCl [(a27, .inl (g.2 3, 240, .inr (.inl mnumbers))), (a25, .inl (g.2 0, 4, .inl mmany)), (h0, .inr (12, [.int mthrown, .ref a1, .ref a2, .ref a3, .ref a4, .int mtaped, .ref a6, .int msize, .int mat, .int mfrom, .int mtoken, .int mvalue, .int mfaultKind, .int mfaultPlace, .ref a14, .ref a15, .int mgoal, .int mgoalDays, .int mgoalHearer, .ref a19, .ref a20, .int mleastOrder, .int mwordsMany, .ref a23, .ref a24, .ref a25, .ref a26, .ref a27, .ref a28])), (a1, .inl (g.2 0, 225, .inl mworld))] H := hP
      have hD : va_D A [(a27, .inl (g.2 3, 240, .inr (.inl mnumbers))), (a25, .inl (g.2 0, 4, .inl mmany)), (h0, .inr (12, [.int mthrown, .ref a1, .ref a2, .ref a3, .ref a4, .int mtaped, .ref a6, .int msize, .int mat, .int mfrom, .int mtoken, .int mvalue, .int mfaultKind, .int mfaultPlace, .ref a14, .ref a15, .int mgoal, .int mgoalDays, .int mgoalHearer, .ref a19, .ref a20, .int mleastOrder, .int mwordsMany, .ref a23, .ref a24, .ref a25, .ref a26, .ref a27, .ref a28])), (a1, .inl (g.2 0, 225, .inl mworld))] := hD
      refine W.eq (g2 := F0 m 15 ls [.int (u10.1 0), .int p1, .ref h0]) rfl ?_
      rcases (show (u10.1 0).toInt = 0 ∨ (u10.1 0).toInt = 1 by omega) with c12 | c12
      · skip
        refine lv_if_eq (tgt := 33) hx hb dX12_hope_15 (by decide) (fun c13 => ?_) (fun c13 => ?_)
        · have c13 := k_eq (a := (u10.1 0).toInt) (b := 0) rfl (by decide) c13
          refine lv_iconst (v := 0) hx hb dX12_hope_33 (by decide) ?_
          have kc0 : (0 : Int32).toInt = 0 := by decide
          refine call_V (As := [.int p1, .int 0]) (rest := []) (wr := []) FC hKn hZ (k_X12_asksWeek l g h0 a1 a2 a3 a4 a6 a14 a15 a19 a20 a23 a24 a25 a26 a27 a28 mthrown mtaped msize mat mfrom mtoken mvalue mfaultKind mfaultPlace mgoal mgoalDays mgoalHearer mleastOrder mwordsMany mworld mnumbers mmany p1 ((0 : Int32)) (by omega) (by omega) (by omega) (by omega) (by omega) (by omega) (by omega) (by omega) i_mworld i_mmany (by omega)) m_yX12_asksWeek b_940 (ci := 12) rfl rfl rfl hP hD hS hA [2, 3, 0, 1] [] rfl (by decide) rfl (by decide) (by decide) rfl hl.1 rfl (Nat.le_of_ble_eq_true rfl) dX12_hope_34 ⟨(Nat.le_of_ble_eq_true rfl), (Nat.le_of_ble_eq_true rfl)⟩ ⟨(Nat.le_of_ble_eq_true rfl), (Nat.le_of_ble_eq_true rfl)⟩ (fun u14 H locs q15 hP hD hS => ?_)
          obtain ⟨q15_0, q15_1, q15_2⟩ := q15
          have hP : va_P g.1 vwCl [(h0, .inr (12, [.int mthrown, .ref a1, .ref a2, .ref a3, .ref a4, .int mtaped, .ref a6, .int msize, .int mat, .int mfrom, .int mtoken, .int mvalue, .int mfaultKind, .int mfaultPlace, .ref a14, .ref a15, .int mgoal, .int mgoalDays, .int mgoalHearer, .ref a19, .ref a20, .int mleastOrder, .int mwordsMany, .ref a23, .ref a24, .ref a25, .ref a26, .ref a27, .ref a28])), (a1, .inl (g.2 0, 225, .inl mworld)), (a27, .inl (g.2 3, 240, .inr (.inl mnumbers))), (a25, .inl (g.2 0, 4, .inl mmany))] H := hP
          have hD : va_D A [(h0, .inr (12, [.int mthrown, .ref a1, .ref a2, .ref a3, .ref a4, .int mtaped, .ref a6, .int msize, .int mat, .int mfrom, .int mtoken, .int mvalue, .int mfaultKind, .int mfaultPlace, .ref a14, .ref a15, .int mgoal, .int mgoalDays, .int mgoalHearer, .ref a19, .ref a20, .int mleastOrder, .int mwordsMany, .ref a23, .ref a24, .ref a25, .ref a26, .ref a27, .ref a28])), (a1, .inl (g.2 0, 225, .inl mworld)), (a27, .inl (g.2 3, 240, .inr (.inl mnumbers))), (a25, .inl (g.2 0, 4, .inl mmany))] := hD
          refine W.eq (g2 := F0 m 37 ls [.int (u14.1 0)]) rfl ?_
          rcases (show (u14.1 0).toInt < 0 ∨ (u14.1 0).toInt = 0 by omega) with c16 | c16
          · skip
            refine lv_istore (lv' := [(5, .int (u14.1 0)), (0, .ref h0), (1, .int p1), (2, .int p2), (3, .int p3), (4, .int p4)]) hx hb dX12_hope_37 hl (by decide) rfl (fun ls hl => ?_)
            refine lv_iload hx hb dX12_hope_39 (lv_at hl 0 rfl) ?_
            refine lv_if_ge (tgt := 47) hx hb dX12_hope_41 (by decide) (fun c17 => ?_) (fun c17 => ?_)
            · have c17 := k_le (a := 0) (b := (u14.1 0).toInt) (by decide) rfl c17
              exfalso; omega
            · have c17 := k_nle (a := 0) (b := (u14.1 0).toInt) (by decide) rfl c17
              refine lv_iload hx hb dX12_hope_44 (lv_at hl 0 rfl) ?_
              exact rt_i FX ((fun k => match k with | 0 => u14.1 0 | _ => 0), (fun _ => fun _ => 0), (fun _ => fun _ => 0)) rfl trivial (hP.sub [0, 1, 2, 3] rfl) (hD.sub [0, 1, 2, 3] (by decide) rfl) hS (Nat.le_of_ble_eq_true rfl) (Nat.le_of_ble_eq_true rfl) dX12_hope_46
          · have c16_2 := q15_2 c16
            exfalso; omega
        · have c13 := k_ne (a := (u10.1 0).toInt) (b := 0) rfl (by decide) c13
          exfalso; omega
      · have c12_r := q11_1 c12
        refine lv_if_eq (tgt := 33) hx hb dX12_hope_15 (by decide) (fun c18 => ?_) (fun c18 => ?_)
        · have c18 := k_eq (a := (u10.1 0).toInt) (b := 0) rfl (by decide) c18
          exfalso; omega
        · have c18 := k_ne (a := (u10.1 0).toInt) (b := 0) rfl (by decide) c18
          refine lv_iload hx hb dX12_hope_18 (lv_at hl 4 rfl) ?_
          refine lv_i2l (v := p4.toInt64) hx hb dX12_hope_20 rfl ?_
          refine lv_topl (fun z19 e_z19 => ?_)
          have t_z19 : z19.toInt = p4.toInt := by rw [e_z19]; exact Int32.toInt_toInt64 _
          refine lv_lconst (v := 0) hx hb dX12_hope_21 (by decide) ?_
          refine lv_lconst (v := 1) hx hb dX12_hope_22 (by decide) ?_
          have kcl0 : (0 : Int64).toInt = 0 := by decide
          have kcl1 : (1 : Int64).toInt = 1 := by decide
          refine call_S (As := [.long z19, .long 0, .long 1]) (rest := [.int p1, .ref h0]) (wr := [(a27, .inl (g.2 3, 240, .inr (.inl mnumbers))), (a25, .inl (g.2 0, 4, .inl mmany)), (h0, .inr (12, [.int mthrown, .ref a1, .ref a2, .ref a3, .ref a4, .int mtaped, .ref a6, .int msize, .int mat, .int mfrom, .int mtoken, .int mvalue, .int mfaultKind, .int mfaultPlace, .ref a14, .ref a15, .int mgoal, .int mgoalDays, .int mgoalHearer, .ref a19, .ref a20, .int mleastOrder, .int mwordsMany, .ref a23, .ref a24, .ref a25, .ref a26, .ref a27, .ref a28])), (a1, .inl (g.2 0, 225, .inl mworld))]) FC hKn hZ (k_X12_in l g z19 ((0 : Int64)) ((1 : Int64))) m_yX12_in b_802 hP hD hS hA [] [0, 1, 2, 3] rfl (by decide) rfl (by decide) (by decide) rfl hl.1 rfl (Nat.le_of_ble_eq_true rfl) dX12_hope_23 ⟨(Nat.le_of_ble_eq_true rfl), (Nat.le_of_ble_eq_true rfl)⟩ ⟨(Nat.le_of_ble_eq_true rfl), (Nat.le_of_ble_eq_true rfl)⟩ (fun u20 H locs q21 hP hD hS => ?_)
          obtain ⟨q21_0, q21_1, q21_2⟩ := q21
          have hP : va_P g.1 vwCl [(a27, .inl (g.2 3, 240, .inr (.inl mnumbers))), (a25, .inl (g.2 0, 4, .inl mmany)), (h0, .inr (12, [.int mthrown, .ref a1, .ref a2, .ref a3, .ref a4, .int mtaped, .ref a6, .int msize, .int mat, .int mfrom, .int mtoken, .int mvalue, .int mfaultKind, .int mfaultPlace, .ref a14, .ref a15, .int mgoal, .int mgoalDays, .int mgoalHearer, .ref a19, .ref a20, .int mleastOrder, .int mwordsMany, .ref a23, .ref a24, .ref a25, .ref a26, .ref a27, .ref a28])), (a1, .inl (g.2 0, 225, .inl mworld))] H := hP
          have hD : va_D A [(a27, .inl (g.2 3, 240, .inr (.inl mnumbers))), (a25, .inl (g.2 0, 4, .inl mmany)), (h0, .inr (12, [.int mthrown, .ref a1, .ref a2, .ref a3, .ref a4, .int mtaped, .ref a6, .int msize, .int mat, .int mfrom, .int mtoken, .int mvalue, .int mfaultKind, .int mfaultPlace, .ref a14, .ref a15, .int mgoal, .int mgoalDays, .int mgoalHearer, .ref a19, .ref a20, .int mleastOrder, .int mwordsMany, .ref a23, .ref a24, .ref a25, .ref a26, .ref a27, .ref a28])), (a1, .inl (g.2 0, 225, .inl mworld))] := hD
          refine W.eq (g2 := F0 m 26 ls [.int (u20.1 0), .int p1, .ref h0]) rfl ?_
          rcases (show (u20.1 0).toInt = 0 ∨ (u20.1 0).toInt = 1 by omega) with c22 | c22
          · skip
            refine lv_if_eq (tgt := 33) hx hb dX12_hope_26 (by decide) (fun c23 => ?_) (fun c23 => ?_)
            · have c23 := k_eq (a := (u20.1 0).toInt) (b := 0) rfl (by decide) c23
              refine lv_iconst (v := 0) hx hb dX12_hope_33 (by decide) ?_
              have kc0 : (0 : Int32).toInt = 0 := by decide
              refine call_V (As := [.int p1, .int 0]) (rest := []) (wr := []) FC hKn hZ (k_X12_asksWeek l g h0 a1 a2 a3 a4 a6 a14 a15 a19 a20 a23 a24 a25 a26 a27 a28 mthrown mtaped msize mat mfrom mtoken mvalue mfaultKind mfaultPlace mgoal mgoalDays mgoalHearer mleastOrder mwordsMany mworld mnumbers mmany p1 ((0 : Int32)) (by omega) (by omega) (by omega) (by omega) (by omega) (by omega) (by omega) (by omega) i_mworld i_mmany (by omega)) m_yX12_asksWeek b_940 (ci := 12) rfl rfl rfl hP hD hS hA [2, 3, 0, 1] [] rfl (by decide) rfl (by decide) (by decide) rfl hl.1 rfl (Nat.le_of_ble_eq_true rfl) dX12_hope_34 ⟨(Nat.le_of_ble_eq_true rfl), (Nat.le_of_ble_eq_true rfl)⟩ ⟨(Nat.le_of_ble_eq_true rfl), (Nat.le_of_ble_eq_true rfl)⟩ (fun u24 H locs q25 hP hD hS => ?_)
              obtain ⟨q25_0, q25_1, q25_2⟩ := q25
              have hP : va_P g.1 vwCl [(h0, .inr (12, [.int mthrown, .ref a1, .ref a2, .ref a3, .ref a4, .int mtaped, .ref a6, .int msize, .int mat, .int mfrom, .int mtoken, .int mvalue, .int mfaultKind, .int mfaultPlace, .ref a14, .ref a15, .int mgoal, .int mgoalDays, .int mgoalHearer, .ref a19, .ref a20, .int mleastOrder, .int mwordsMany, .ref a23, .ref a24, .ref a25, .ref a26, .ref a27, .ref a28])), (a1, .inl (g.2 0, 225, .inl mworld)), (a27, .inl (g.2 3, 240, .inr (.inl mnumbers))), (a25, .inl (g.2 0, 4, .inl mmany))] H := hP
              have hD : va_D A [(h0, .inr (12, [.int mthrown, .ref a1, .ref a2, .ref a3, .ref a4, .int mtaped, .ref a6, .int msize, .int mat, .int mfrom, .int mtoken, .int mvalue, .int mfaultKind, .int mfaultPlace, .ref a14, .ref a15, .int mgoal, .int mgoalDays, .int mgoalHearer, .ref a19, .ref a20, .int mleastOrder, .int mwordsMany, .ref a23, .ref a24, .ref a25, .ref a26, .ref a27, .ref a28])), (a1, .inl (g.2 0, 225, .inl mworld)), (a27, .inl (g.2 3, 240, .inr (.inl mnumbers))), (a25, .inl (g.2 0, 4, .inl mmany))] := hD
              refine W.eq (g2 := F0 m 37 ls [.int (u24.1 0)]) rfl ?_
              rcases (show (u24.1 0).toInt < 0 ∨ (u24.1 0).toInt = 0 by omega) with c26 | c26
              · skip
                refine lv_istore (lv' := [(5, .int (u24.1 0)), (0, .ref h0), (1, .int p1), (2, .int p2), (3, .int p3), (4, .int p4)]) hx hb dX12_hope_37 hl (by decide) rfl (fun ls hl => ?_)
                refine lv_iload hx hb dX12_hope_39 (lv_at hl 0 rfl) ?_
                refine lv_if_ge (tgt := 47) hx hb dX12_hope_41 (by decide) (fun c27 => ?_) (fun c27 => ?_)
                · have c27 := k_le (a := 0) (b := (u24.1 0).toInt) (by decide) rfl c27
                  exfalso; omega
                · have c27 := k_nle (a := 0) (b := (u24.1 0).toInt) (by decide) rfl c27
                  refine lv_iload hx hb dX12_hope_44 (lv_at hl 0 rfl) ?_
                  exact rt_i FX ((fun k => match k with | 0 => u24.1 0 | _ => 0), (fun _ => fun _ => 0), (fun _ => fun _ => 0)) rfl trivial (hP.sub [0, 1, 2, 3] rfl) (hD.sub [0, 1, 2, 3] (by decide) rfl) hS (Nat.le_of_ble_eq_true rfl) (Nat.le_of_ble_eq_true rfl) dX12_hope_46
              · have c26_2 := q25_2 c26
                exfalso; omega
            · have c23 := k_ne (a := (u20.1 0).toInt) (b := 0) rfl (by decide) c23
              exfalso; omega
          · have c22_r := q21_2 c22
            refine lv_if_eq (tgt := 33) hx hb dX12_hope_26 (by decide) (fun c28 => ?_) (fun c28 => ?_)
            · have c28 := k_eq (a := (u20.1 0).toInt) (b := 0) rfl (by decide) c28
              exfalso; omega
            · have c28 := k_ne (a := (u20.1 0).toInt) (b := 0) rfl (by decide) c28
              refine lv_iconst (v := 1) hx hb dX12_hope_29 (by decide) ?_
              refine lv_goto (tgt := 34) hx hb dX12_hope_30 (by decide) ?_
              have kc1 : (1 : Int32).toInt = 1 := by decide
              refine call_V (As := [.int p1, .int 1]) (rest := []) (wr := []) FC hKn hZ (k_X12_asksWeek l g h0 a1 a2 a3 a4 a6 a14 a15 a19 a20 a23 a24 a25 a26 a27 a28 mthrown mtaped msize mat mfrom mtoken mvalue mfaultKind mfaultPlace mgoal mgoalDays mgoalHearer mleastOrder mwordsMany mworld mnumbers mmany p1 ((1 : Int32)) (by omega) (by omega) (by omega) (by omega) (by omega) (by omega) (by omega) (by omega) i_mworld i_mmany (by omega)) m_yX12_asksWeek b_940 (ci := 12) rfl rfl rfl hP hD hS hA [2, 3, 0, 1] [] rfl (by decide) rfl (by decide) (by decide) rfl hl.1 rfl (Nat.le_of_ble_eq_true rfl) dX12_hope_34 ⟨(Nat.le_of_ble_eq_true rfl), (Nat.le_of_ble_eq_true rfl)⟩ ⟨(Nat.le_of_ble_eq_true rfl), (Nat.le_of_ble_eq_true rfl)⟩ (fun u29 H locs q30 hP hD hS => ?_)
              obtain ⟨q30_0, q30_1, q30_2⟩ := q30
              have hP : va_P g.1 vwCl [(h0, .inr (12, [.int mthrown, .ref a1, .ref a2, .ref a3, .ref a4, .int mtaped, .ref a6, .int msize, .int mat, .int mfrom, .int mtoken, .int mvalue, .int mfaultKind, .int mfaultPlace, .ref a14, .ref a15, .int mgoal, .int mgoalDays, .int mgoalHearer, .ref a19, .ref a20, .int mleastOrder, .int mwordsMany, .ref a23, .ref a24, .ref a25, .ref a26, .ref a27, .ref a28])), (a1, .inl (g.2 0, 225, .inl mworld)), (a27, .inl (g.2 3, 240, .inr (.inl mnumbers))), (a25, .inl (g.2 0, 4, .inl mmany))] H := hP
              have hD : va_D A [(h0, .inr (12, [.int mthrown, .ref a1, .ref a2, .ref a3, .ref a4, .int mtaped, .ref a6, .int msize, .int mat, .int mfrom, .int mtoken, .int mvalue, .int mfaultKind, .int mfaultPlace, .ref a14, .ref a15, .int mgoal, .int mgoalDays, .int mgoalHearer, .ref a19, .ref a20, .int mleastOrder, .int mwordsMany, .ref a23, .ref a24, .ref a25, .ref a26, .ref a27, .ref a28])), (a1, .inl (g.2 0, 225, .inl mworld)), (a27, .inl (g.2 3, 240, .inr (.inl mnumbers))), (a25, .inl (g.2 0, 4, .inl mmany))] := hD
              refine W.eq (g2 := F0 m 37 ls [.int (u29.1 0)]) rfl ?_
              rcases (show (u29.1 0).toInt < 0 ∨ (u29.1 0).toInt = 0 by omega) with c31 | c31
              · skip
                refine lv_istore (lv' := [(5, .int (u29.1 0)), (0, .ref h0), (1, .int p1), (2, .int p2), (3, .int p3), (4, .int p4)]) hx hb dX12_hope_37 hl (by decide) rfl (fun ls hl => ?_)
                refine lv_iload hx hb dX12_hope_39 (lv_at hl 0 rfl) ?_
                refine lv_if_ge (tgt := 47) hx hb dX12_hope_41 (by decide) (fun c32 => ?_) (fun c32 => ?_)
                · have c32 := k_le (a := 0) (b := (u29.1 0).toInt) (by decide) rfl c32
                  exfalso; omega
                · have c32 := k_nle (a := 0) (b := (u29.1 0).toInt) (by decide) rfl c32
                  refine lv_iload hx hb dX12_hope_44 (lv_at hl 0 rfl) ?_
                  exact rt_i FX ((fun k => match k with | 0 => u29.1 0 | _ => 0), (fun _ => fun _ => 0), (fun _ => fun _ => 0)) rfl trivial (hP.sub [0, 1, 2, 3] rfl) (hD.sub [0, 1, 2, 3] (by decide) rfl) hS (Nat.le_of_ble_eq_true rfl) (Nat.le_of_ble_eq_true rfl) dX12_hope_46
              · have hw33 := q30_1 c31
                have hw33b := hw33.2.1
                have hw33a := hw33.1
                refine lv_istore (lv' := [(5, .int (u29.1 0)), (0, .ref h0), (1, .int p1), (2, .int p2), (3, .int p3), (4, .int p4)]) hx hb dX12_hope_37 hl (by decide) rfl (fun ls hl => ?_)
                refine lv_iload hx hb dX12_hope_39 (lv_at hl 0 rfl) ?_
                refine lv_if_ge (tgt := 47) hx hb dX12_hope_41 (by decide) (fun c34 => ?_) (fun c34 => ?_)
                · have c34 := k_le (a := 0) (b := (u29.1 0).toInt) (by decide) rfl c34
                  refine lv_aload_n hx hb dX12_hope_47 rfl (lv_at hl 1 rfl) ?_
                  refine call_V (As := []) (rest := []) (wr := [(a27, .inl (g.2 3, 240, .inr (.inl mnumbers))), (a25, .inl (g.2 0, 4, .inl mmany))]) FC hKn hZ (k_X12_allStates l g h0 a1 a2 a3 a4 a6 a14 a15 a19 a20 a23 a24 a25 a26 a27 a28 mthrown mtaped msize mat mfrom mtoken mvalue mfaultKind mfaultPlace mgoal mgoalDays mgoalHearer mleastOrder mwordsMany mworld (by omega) (by omega) (by omega) (by omega) (by omega) (by omega) (by omega) (by omega) i_mworld) m_yX12_allStates b_806 (ci := 12) rfl rfl rfl hP hD hS hA [0, 1] [2, 3] rfl (by decide) rfl (by decide) (by decide) rfl hl.1 rfl (Nat.le_of_ble_eq_true rfl) dX12_hope_48 ⟨(Nat.le_of_ble_eq_true rfl), (Nat.le_of_ble_eq_true rfl)⟩ ⟨(Nat.le_of_ble_eq_true rfl), (Nat.le_of_ble_eq_true rfl)⟩ (fun u35 H locs q36 hP hD hS => ?_)
                  obtain ⟨q36_0, q36_1, q36_2⟩ := q36
                  have hP : va_P g.1 vwCl [(a27, .inl (g.2 3, 240, .inr (.inl mnumbers))), (a25, .inl (g.2 0, 4, .inl mmany)), (h0, .inr (12, [.int mthrown, .ref a1, .ref a2, .ref a3, .ref a4, .int mtaped, .ref a6, .int msize, .int mat, .int mfrom, .int mtoken, .int mvalue, .int mfaultKind, .int mfaultPlace, .ref a14, .ref a15, .int mgoal, .int mgoalDays, .int mgoalHearer, .ref a19, .ref a20, .int mleastOrder, .int mwordsMany, .ref a23, .ref a24, .ref a25, .ref a26, .ref a27, .ref a28])), (a1, .inl (g.2 0, 225, .inl mworld))] H := hP
                  have hD : va_D A [(a27, .inl (g.2 3, 240, .inr (.inl mnumbers))), (a25, .inl (g.2 0, 4, .inl mmany)), (h0, .inr (12, [.int mthrown, .ref a1, .ref a2, .ref a3, .ref a4, .int mtaped, .ref a6, .int msize, .int mat, .int mfrom, .int mtoken, .int mvalue, .int mfaultKind, .int mfaultPlace, .ref a14, .ref a15, .int mgoal, .int mgoalDays, .int mgoalHearer, .ref a19, .ref a20, .int mleastOrder, .int mwordsMany, .ref a23, .ref a24, .ref a25, .ref a26, .ref a27, .ref a28])), (a1, .inl (g.2 0, 225, .inl mworld))] := hD
                  refine W.eq (g2 := F0 m 51 ls [.int (u35.1 0)]) rfl ?_
                  rw [q36_1] at q36_0
                  rw [q36_1] at q36_2
                  refine tp_i (v := asF mworld) q36_1 ?_
                  refine lv_istore (lv' := [(6, .int (asF mworld)), (5, .int (u29.1 0)), (0, .ref h0), (1, .int p1), (2, .int p2), (3, .int p3), (4, .int p4)]) hx hb dX12_hope_51 hl (by decide) rfl (fun ls hl => ?_)
                  refine lv_iconst (v := 0) hx hb dX12_hope_53 (by decide) ?_
                  refine lv_istore (lv' := [(7, .int 0), (6, .int (asF mworld)), (5, .int (u29.1 0)), (0, .ref h0), (1, .int p1), (2, .int p2), (3, .int p3), (4, .int p4)]) hx hb dX12_hope_54 hl (by decide) rfl (fun ls hl => ?_)
                  have lp124 : ∀ (n126 : Nat) (x122 : Int32) (x123 : Int32) (H : Heap) (locs : List Loc) (ls : Array Slot), 0 ≤ x122.toInt ∧ x122.toInt ≤ 10 → 1 ≤ x123.toInt ∧ x123.toInt ≤ 255 → (10 - x122.toInt).toNat < n126 → va_P g.1 vwCl [(a27, .inl (g.2 3, 240, .inr (.inl mnumbers))), (a25, .inl (g.2 0, 4, .inl mmany)), (h0, .inr (12, [.int mthrown, .ref a1, .ref a2, .ref a3, .ref a4, .int mtaped, .ref a6, .int msize, .int mat, .int mfrom, .int mtoken, .int mvalue, .int mfaultKind, .int mfaultPlace, .ref a14, .ref a15, .int mgoal, .int mgoalDays, .int mgoalHearer, .ref a19, .ref a20, .int mleastOrder, .int mwordsMany, .ref a23, .ref a24, .ref a25, .ref a26, .ref a27, .ref a28])), (a1, .inl (g.2 0, 225, .inl mworld))] H → va_D A [(a27, .inl (g.2 3, 240, .inr (.inl mnumbers))), (a25, .inl (g.2 0, 4, .inl mmany)), (h0, .inr (12, [.int mthrown, .ref a1, .ref a2, .ref a3, .ref a4, .int mtaped, .ref a6, .int msize, .int mat, .int mfrom, .int mtoken, .int mvalue, .int mfaultKind, .int mfaultPlace, .ref a14, .ref a15, .int mgoal, .int mgoalDays, .int mgoalHearer, .ref a19, .ref a20, .int mleastOrder, .int mwordsMany, .ref a23, .ref a24, .ref a25, .ref a26, .ref a27, .ref a28])), (a1, .inl (g.2 0, 225, .inl mworld))] → va_S A s.heap H locs → lv_has ls 8 [(7, .int x122), (6, .int x123), (5, .int (u29.1 0)), (0, .ref h0), (1, .int p1), (2, .int p2), (3, .int p3), (4, .int p4)] → W p l e { frames := 4, cells := 0, slots := 0, locals := 92 } s m ([.ref h0, .int p1, .int p2, .int p3, .int p4].toArray) below meth c H locs 0 0 (MQ below (QX (S := (Nat → Int32) × (Nat → Nat → Int32) × (Nat → Nat → Int64)) (fun u => some (.int (u.1 0))) (fun u => True) g (fun u => [(h0, .inr (12, [.int mthrown, .ref a1, .ref a2, .ref a3, .ref a4, .int mtaped, .ref a6, .int msize, .int mat, .int mfrom, .int mtoken, .int mvalue, .int mfaultKind, .int mfaultPlace, .ref a14, .ref a15, .int mgoal, .int mgoalDays, .int mgoalHearer, .ref a19, .ref a20, .int mleastOrder, .int mwordsMany, .ref a23, .ref a24, .ref a25, .ref a26, .ref a27, .ref a28])), (a1, .inl (g.2 0, 225, .inl mworld)), (a27, .inl (g.2 3, 240, .inr (.inl mnumbers))), (a25, .inl (g.2 0, 4, .inl mmany))]) A) ([.ref h0, .int p1, .int p2, .int p3, .int p4].toArray) s 0 0 A) (F0 m 56 ls []) := by
                    intro n126
                    induction n126 with
                    | zero =>
                      intro x122 x123 H locs ls h_x122 h_x123 hn127
                      exact absurd hn127 (Nat.not_lt_zero _)
                    | succ n126 ih125 =>
                      intro x122 x123 H locs ls h_x122 h_x123 hn127 hP hD hS hl
                      refine lv_iload hx hb dX12_hope_56 (lv_at hl 0 rfl) ?_
                      refine lv_aload_n hx hb dX12_hope_58 rfl (lv_at hl 3 rfl) ?_
                      refine g_get (C := RX12) (T := TX12) (N := 29) (ci := 12) (v := .ref a25) FC hKn hP i_X12 2 rfl rfl 25 (by decide) b_934 rfl dX12_hope_59 ?_
                      refine lv_iload_n hx hb dX12_hope_62 rfl (lv_at hl 4 rfl) ?_
                      refine va_iald hx hb hKn.1 hP 1 0 rfl rfl (vp_in_iff.mpr ⟨by omega, by omega⟩) dX12_hope_63 ?_
                      refine lv_topi (fun z128 e_z128 => ?_)
                      have t_z128 : -1 ≤ z128.toInt ∧ z128.toInt ≤ 60 := by rw [e_z128]; exact i_mmany _ (clt (by omega) (by omega))
                      have w_z128 : 0 ≤ z128.toInt ∧ z128.toInt ≤ 10 := by rw [e_z128]; exact hw33.2.1
                      have q_z128 : z128.toInt = (mmany p1.toNatClampNeg).toInt := by rw [e_z128]
                      refine lv_icmp_ge (tgt := 88) hx hb dX12_hope_64 (by decide) (fun c129 => ?_) (fun c129 => ?_)
                      · have c129 := k_le (a := z128.toInt) (b := x122.toInt) rfl rfl c129
                        refine lv_aload_n hx hb dX12_hope_88 rfl (lv_at hl 3 rfl) ?_
                        refine lv_iload_n hx hb dX12_hope_89 rfl (lv_at hl 5 rfl) ?_
                        refine lv_iload hx hb dX12_hope_90 (lv_at hl 1 rfl) ?_
                        refine lv_iload_n hx hb dX12_hope_92 rfl (lv_at hl 6 rfl) ?_
                        refine lv_iload hx hb dX12_hope_93 (lv_at hl 7 rfl) ?_
                        refine call_V (As := [.int p2, .int x123, .int p3, .int p4]) (rest := []) (wr := [(a27, .inl (g.2 3, 240, .inr (.inl mnumbers))), (a25, .inl (g.2 0, 4, .inl mmany))]) FC hKn hZ (k_X12_chanceOf l g h0 a1 a2 a3 a4 a6 a14 a15 a19 a20 a23 a24 a25 a26 a27 a28 mthrown mtaped msize mat mfrom mtoken mvalue mfaultKind mfaultPlace mgoal mgoalDays mgoalHearer mleastOrder mwordsMany mworld p2 x123 p3 p4 (by omega) (by omega) (by omega) (by omega) (by omega) (by omega) (by omega) (by omega) i_mworld (by omega) (by omega) (by omega)) m_yX12_chanceOf b_892 (ci := 12) rfl rfl rfl hP hD hS hA [2, 3] [0, 1] rfl (by decide) rfl (by decide) (by decide) rfl hl.1 rfl (Nat.le_of_ble_eq_true rfl) dX12_hope_95 ⟨(Nat.le_of_ble_eq_true rfl), (Nat.le_of_ble_eq_true rfl)⟩ ⟨(Nat.le_of_ble_eq_true rfl), (Nat.le_of_ble_eq_true rfl)⟩ (fun u130 H locs q131 hP hD hS => ?_)
                        have hP : va_P g.1 vwCl [(a27, .inl (g.2 3, 240, .inr (.inl mnumbers))), (a25, .inl (g.2 0, 4, .inl mmany)), (h0, .inr (12, [.int mthrown, .ref a1, .ref a2, .ref a3, .ref a4, .int mtaped, .ref a6, .int msize, .int mat, .int mfrom, .int mtoken, .int mvalue, .int mfaultKind, .int mfaultPlace, .ref a14, .ref a15, .int mgoal, .int mgoalDays, .int mgoalHearer, .ref a19, .ref a20, .int mleastOrder, .int mwordsMany, .ref a23, .ref a24, .ref a25, .ref a26, .ref a27, .ref a28])), (a1, .inl (g.2 0, 225, .inl mworld))] H := hP
                        have hD : va_D A [(a27, .inl (g.2 3, 240, .inr (.inl mnumbers))), (a25, .inl (g.2 0, 4, .inl mmany)), (h0, .inr (12, [.int mthrown, .ref a1, .ref a2, .ref a3, .ref a4, .int mtaped, .ref a6, .int msize, .int mat, .int mfrom, .int mtoken, .int mvalue, .int mfaultKind, .int mfaultPlace, .ref a14, .ref a15, .int mgoal, .int mgoalDays, .int mgoalHearer, .ref a19, .ref a20, .int mleastOrder, .int mwordsMany, .ref a23, .ref a24, .ref a25, .ref a26, .ref a27, .ref a28])), (a1, .inl (g.2 0, 225, .inl mworld))] := hD
                        refine W.eq (g2 := F0 m 98 ls [.int (u130.1 0)]) rfl ?_
                        exact rt_i FX ((fun k => match k with | 0 => u130.1 0 | _ => 0), (fun _ => fun _ => 0), (fun _ => fun _ => 0)) rfl trivial (hP.sub [2, 3, 0, 1] rfl) (hD.sub [2, 3, 0, 1] (by decide) rfl) hS (Nat.le_of_ble_eq_true rfl) (Nat.le_of_ble_eq_true rfl) dX12_hope_98
                      · have c129 := k_nle (a := z128.toInt) (b := x122.toInt) rfl rfl c129
                        refine lv_aload_n hx hb dX12_hope_67 rfl (lv_at hl 3 rfl) ?_
                        refine lv_iload hx hb dX12_hope_68 (lv_at hl 1 rfl) ?_
                        refine lv_aload_n hx hb dX12_hope_70 rfl (lv_at hl 3 rfl) ?_
                        refine lv_iload_n hx hb dX12_hope_71 rfl (lv_at hl 4 rfl) ?_
                        refine lv_iload hx hb dX12_hope_72 (lv_at hl 0 rfl) ?_
                        refine call_V (As := [.int p1, .int x122]) (rest := [.int x123, .ref h0]) (wr := []) FC hKn hZ (k_X12_toldAt l g h0 a1 a2 a3 a4 a6 a14 a15 a19 a20 a23 a24 a25 a26 a27 a28 mthrown mtaped msize mat mfrom mtoken mvalue mfaultKind mfaultPlace mgoal mgoalDays mgoalHearer mleastOrder mwordsMany mworld mnumbers mmany p1 x122 (by omega) (by omega) (by omega) (by omega) (by omega) (by omega) (by omega) (by omega) i_mworld i_mmany (by assumption) (by omega) (by omega)) m_yX12_toldAt b_941 (ci := 12) rfl rfl rfl hP hD hS hA [2, 3, 0, 1] [] rfl (by decide) rfl (by decide) (by decide) rfl hl.1 rfl (Nat.le_of_ble_eq_true rfl) dX12_hope_74 ⟨(Nat.le_of_ble_eq_true rfl), (Nat.le_of_ble_eq_true rfl)⟩ ⟨(Nat.le_of_ble_eq_true rfl), (Nat.le_of_ble_eq_true rfl)⟩ (fun u132 H locs q133 hP hD hS => ?_)
                        obtain ⟨q133_0, q133_1, q133_2⟩ := q133
                        have hP : va_P g.1 vwCl [(h0, .inr (12, [.int mthrown, .ref a1, .ref a2, .ref a3, .ref a4, .int mtaped, .ref a6, .int msize, .int mat, .int mfrom, .int mtoken, .int mvalue, .int mfaultKind, .int mfaultPlace, .ref a14, .ref a15, .int mgoal, .int mgoalDays, .int mgoalHearer, .ref a19, .ref a20, .int mleastOrder, .int mwordsMany, .ref a23, .ref a24, .ref a25, .ref a26, .ref a27, .ref a28])), (a1, .inl (g.2 0, 225, .inl mworld)), (a27, .inl (g.2 3, 240, .inr (.inl mnumbers))), (a25, .inl (g.2 0, 4, .inl mmany))] H := hP
                        have hD : va_D A [(h0, .inr (12, [.int mthrown, .ref a1, .ref a2, .ref a3, .ref a4, .int mtaped, .ref a6, .int msize, .int mat, .int mfrom, .int mtoken, .int mvalue, .int mfaultKind, .int mfaultPlace, .ref a14, .ref a15, .int mgoal, .int mgoalDays, .int mgoalHearer, .ref a19, .ref a20, .int mleastOrder, .int mwordsMany, .ref a23, .ref a24, .ref a25, .ref a26, .ref a27, .ref a28])), (a1, .inl (g.2 0, 225, .inl mworld)), (a27, .inl (g.2 3, 240, .inr (.inl mnumbers))), (a25, .inl (g.2 0, 4, .inl mmany))] := hD
                        refine W.eq (g2 := F0 m 77 ls [.int (u132.1 0), .int x123, .ref h0]) rfl ?_
                        rw [q133_1] at q133_0
                        rw [q133_1] at q133_2
                        refine tp_i (v := tdF mnumbers p1 x122) q133_1 ?_
                        refine call_V (As := [.int x123, .int (tdF mnumbers p1 x122)]) (rest := []) (wr := [(a27, .inl (g.2 3, 240, .inr (.inl mnumbers))), (a25, .inl (g.2 0, 4, .inl mmany))]) FC hKn hZ (k_X12_behindOf l g h0 a1 a2 a3 a4 a6 a14 a15 a19 a20 a23 a24 a25 a26 a27 a28 mthrown mtaped msize mat mfrom mtoken mvalue mfaultKind mfaultPlace mgoal mgoalDays mgoalHearer mleastOrder mwordsMany mworld x123 (tdF mnumbers p1 x122) (by omega) (by omega) (by omega) (by omega) (by omega) (by omega) (by omega) (by omega) i_mworld (by omega) (by omega) (by omega)) m_yX12_behindOf b_854 (ci := 12) rfl rfl rfl hP hD hS hA [0, 1] [2, 3] rfl (by decide) rfl (by decide) (by decide) rfl hl.1 rfl (Nat.le_of_ble_eq_true rfl) dX12_hope_77 ⟨(Nat.le_of_ble_eq_true rfl), (Nat.le_of_ble_eq_true rfl)⟩ ⟨(Nat.le_of_ble_eq_true rfl), (Nat.le_of_ble_eq_true rfl)⟩ (fun u134 H locs q135 hP hD hS => ?_)
                        have q135_0 : 1 ≤ (u134.1 0).toInt ∧ (u134.1 0).toInt ≤ 255 := q135
                        have hP : va_P g.1 vwCl [(a27, .inl (g.2 3, 240, .inr (.inl mnumbers))), (a25, .inl (g.2 0, 4, .inl mmany)), (h0, .inr (12, [.int mthrown, .ref a1, .ref a2, .ref a3, .ref a4, .int mtaped, .ref a6, .int msize, .int mat, .int mfrom, .int mtoken, .int mvalue, .int mfaultKind, .int mfaultPlace, .ref a14, .ref a15, .int mgoal, .int mgoalDays, .int mgoalHearer, .ref a19, .ref a20, .int mleastOrder, .int mwordsMany, .ref a23, .ref a24, .ref a25, .ref a26, .ref a27, .ref a28])), (a1, .inl (g.2 0, 225, .inl mworld))] H := hP
                        have hD : va_D A [(a27, .inl (g.2 3, 240, .inr (.inl mnumbers))), (a25, .inl (g.2 0, 4, .inl mmany)), (h0, .inr (12, [.int mthrown, .ref a1, .ref a2, .ref a3, .ref a4, .int mtaped, .ref a6, .int msize, .int mat, .int mfrom, .int mtoken, .int mvalue, .int mfaultKind, .int mfaultPlace, .ref a14, .ref a15, .int mgoal, .int mgoalDays, .int mgoalHearer, .ref a19, .ref a20, .int mleastOrder, .int mwordsMany, .ref a23, .ref a24, .ref a25, .ref a26, .ref a27, .ref a28])), (a1, .inl (g.2 0, 225, .inl mworld))] := hD
                        refine W.eq (g2 := F0 m 80 ls [.int (u134.1 0)]) rfl ?_
                        refine lv_istore (lv' := [(6, .int (u134.1 0)), (7, .int x122), (5, .int (u29.1 0)), (0, .ref h0), (1, .int p1), (2, .int p2), (3, .int p3), (4, .int p4)]) hx hb dX12_hope_80 hl (by decide) rfl (fun ls hl => ?_)
                        obtain ⟨z136, e_z136⟩ : ∃ y : Int32, y = x122 + 1 := ⟨_, rfl⟩
                        have t_z136 : z136.toInt = x122.toInt + 1 := by rw [e_z136]; exact addk (by decide) (by omega) (by omega)
                        refine lv_iinc (v := z136) (lv' := [(7, .int z136), (6, .int (u134.1 0)), (5, .int (u29.1 0)), (0, .ref h0), (1, .int p1), (2, .int p2), (3, .int p3), (4, .int p4)]) hx hb dX12_hope_82 hl (k := 1) rfl (by rw [e_z136]; rfl) (by decide) rfl (fun ls hl => ?_)
                        refine lv_goto (tgt := 56) hx hb dX12_hope_85 (by decide) ?_
                        exact ih125 z136 (u134.1 0) _ _ ls (by omega) (by omega) (by omega) hP hD hS (lv_sub hl [0, 1, 2, 3, 4, 5, 6, 7] rfl)
                  have kc0 : (0 : Int32).toInt = 0 := by decide
                  exact lp124 _ (0 : Int32) (asF mworld) _ _ ls (by decide) (by omega) (Nat.lt_succ_self _) hP hD hS (lv_sub hl [0, 1, 2, 3, 4, 5, 6, 7] rfl)
                · have c34 := k_nle (a := 0) (b := (u29.1 0).toInt) (by decide) rfl c34
                  exfalso; omega
