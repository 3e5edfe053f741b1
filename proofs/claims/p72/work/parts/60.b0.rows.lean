set_option maxRecDepth 100000 in
set_option maxHeartbeats 4000000 in
theorem k_X12_by (l : Launch) (g : GG) (h0 : Nat) (a1 : Nat) (a2 : Nat) (a3 : Nat) (a4 : Nat) (a6 : Nat) (a14 : Nat) (a15 : Nat) (a19 : Nat) (a20 : Nat) (a23 : Nat) (a24 : Nat) (a25 : Nat) (a26 : Nat) (a27 : Nat) (a28 : Nat) (mthrown : Int32) (mtaped : Int32) (msize : Int32) (mat : Int32) (mfrom : Int32) (mtoken : Int32) (mvalue : Int32) (mfaultKind : Int32) (mfaultPlace : Int32) (mgoal : Int32) (mgoalDays : Int32) (mgoalHearer : Int32) (mleastOrder : Int32) (mwordsMany : Int32) (mworld : Nat → Int32) (mbest : Nat → Int32) (p1 : Int32) (p2 : Int32) (p3 : Int32) (i_mtaped : 0 ≤ mtaped.toInt ∧ mtaped.toInt ≤ 900) (i_msize : 0 ≤ msize.toInt ∧ msize.toInt ≤ 900) (i_mat : 0 ≤ mat.toInt ∧ mat.toInt ≤ 900) (i_mfrom : 0 ≤ mfrom.toInt ∧ mfrom.toInt ≤ 900) (i_mtoken : 0 ≤ mtoken.toInt ∧ mtoken.toInt ≤ 4) (i_mvalue : 0 ≤ mvalue.toInt ∧ mvalue.toInt ≤ 99999) (i_mgoalHearer : 0 ≤ mgoalHearer.toInt ∧ mgoalHearer.toInt ≤ 3) (i_mwordsMany : 0 ≤ mwordsMany.toInt ∧ mwordsMany.toInt ≤ 10) (i_mworld : wod mworld) (i_p1 : 0 ≤ p1.toInt ∧ p1.toInt ≤ 9) (i_p2 : 1 ≤ p2.toInt ∧ p2.toInt ≤ 255) (i_p3 : 0 ≤ p3.toInt ∧ p3.toInt ≤ 8) (htd3 : p3.toInt = 8 ∨ (0 ≤ p3.toInt ∧ p3.toInt < (mworld 6).toInt)) : Ct l g yX12_by cX12_by 6 (some .int) { frames := 4, cells := 0, slots := 0, locals := 95 } [.ref h0, .int p1, .int p2, .int p3] [(h0, .inr (12, [.int mthrown, .ref a1, .ref a2, .ref a3, .ref a4, .int mtaped, .ref a6, .int msize, .int mat, .int mfrom, .int mtoken, .int mvalue, .int mfaultKind, .int mfaultPlace, .ref a14, .ref a15, .int mgoal, .int mgoalDays, .int mgoalHearer, .ref a19, .ref a20, .int mleastOrder, .int mwordsMany, .ref a23, .ref a24, .ref a25, .ref a26, .ref a27, .ref a28])), (a1, .inl (g.2 0, 225, .inl mworld)), (a15, .inl (g.2 0, 2816, .inl mbest))] (S := (Nat → Int32) × (Nat → Nat → Int32) × (Nat → Nat → Int64)) (fun u => some (.int (u.1 0))) (fun u => True) (fun u => [(h0, .inr (12, [.int mthrown, .ref a1, .ref a2, .ref a3, .ref a4, .int mtaped, .ref a6, .int msize, .int mat, .int mfrom, .int mtoken, .int mvalue, .int mfaultKind, .int mfaultPlace, .ref a14, .ref a15, .int mgoal, .int mgoalDays, .int mgoalHearer, .ref a19, .ref a20, .int mleastOrder, .int mwordsMany, .ref a23, .ref a24, .ref a25, .ref a26, .ref a27, .ref a28])), (a1, .inl (g.2 0, 225, .inl mworld)), (a15, .inl (g.2 0, 2816, .inl mbest))]) := by
  refine Ct.of (by decide) (Nat.le_of_ble_eq_true rfl) ?_
  intro p e s m below meth c A ls FX hP hD hS hl
  obtain ⟨FC, hr, hlk, hKn, hA, hnm, hZ⟩ := id FX
  have FC : CallFix p m c cX12_by 6 s _ BIG RX12 := FC
  obtain ⟨hx, hb, hml, hown, hB⟩ := id FC
  have hl : lv_has ls 6 [(0, .ref h0), (1, .int p1), (2, .int p2), (3, .int p3)] := hl
  have h6 := wk_6 i_mworld.1
  refine lv_aload_n hx hb dX12_by_0 rfl (lv_at hl 0 rfl) ?_
  refine g_get (C := RX12) (T := TX12) (N := 29) (ci := 12) (v := .int mgoal) FC hKn hP i_X12 0 rfl rfl 16 (by decide) b_964 rfl dX12_by_1 ?_
  refine lv_iconst (v := 1) hx hb dX12_by_4 (by decide) ?_
  refine lv_icmp_eq (tgt := 16) hx hb dX12_by_5 (by decide) (fun c1 => ?_) (fun c1 => ?_)
  · have c1 := k_eq (a := mgoal.toInt) (b := 1) rfl (by decide) c1
    refine lv_aload_n hx hb dX12_by_16 rfl (lv_at hl 0 rfl) ?_
    refine lv_iload_n hx hb dX12_by_17 rfl (lv_at hl 3 rfl) ?_
    refine call_V (As := [.int p3]) (rest := []) (wr := [(a15, .inl (g.2 0, 2816, .inl mbest))]) FC hKn hZ (k_X12_isTrue l g h0 a1 a2 a3 a4 a6 a14 a15 a19 a20 a23 a24 a25 a26 a27 a28 mthrown mtaped msize mat mfrom mtoken mvalue mfaultKind mfaultPlace mgoal mgoalDays mgoalHearer mleastOrder mwordsMany mworld p3 (by omega) (by omega) (by omega) (by omega) (by omega) (by omega) (by omega) (by omega) i_mworld (by omega)) m_yX12_isTrue b_850 (ci := 12) rfl rfl rfl hP hD hS hA [0, 1] [2] rfl (by decide) rfl (by decide) (by decide) rfl hl.1 rfl (Nat.le_of_ble_eq_true rfl) dX12_by_18 ⟨(Nat.le_of_ble_eq_true rfl), (Nat.le_of_ble_eq_true rfl)⟩ ⟨(Nat.le_of_ble_eq_true rfl), (Nat.le_of_ble_eq_true rfl)⟩ (fun u2 H locs q3 hP hD hS => ?_)
    have q3_0 : 0 ≤ (u2.1 0).toInt ∧ (u2.1 0).toInt ≤ 1 := q3
    have hP : va_P g.1 vwCl [(a15, .inl (g.2 0, 2816, .inl mbest)), (h0, .inr (12, [.int mthrown, .ref a1, .ref a2, .ref a3, .ref a4, .int mtaped, .ref a6, .int msize, .int mat, .int mfrom, .int mtoken, .int mvalue, .int mfaultKind, .int mfaultPlace, .ref a14, .ref a15, .int mgoal, .int mgoalDays, .int mgoalHearer, .ref a19, .ref a20, .int mleastOrder, .int mwordsMany, .ref a23, .ref a24, .ref a25, .ref a26, .ref a27, .ref a28])), (a1, .inl (g.2 0, 225, .inl mworld))] H := hP
    have hD : va_D A [(a15, .inl (g.2 0, 2816, .inl mbest)), (h0, .inr (12, [.int mthrown, .ref a1, .ref a2, .ref a3, .ref a4, .int mtaped, .ref a6, .int msize, .int mat, .int mfrom, .int mtoken, .int mvalue, .int mfaultKind, .int mfaultPlace, .ref a14, .ref a15, .int mgoal, .int mgoalDays, .int mgoalHearer, .ref a19, .ref a20, .int mleastOrder, .int mwordsMany, .ref a23, .ref a24, .ref a25, .ref a26, .ref a27, .ref a28])), (a1, .inl (g.2 0, 225, .inl mworld))] := hD
    refine W.eq (g2 := F0 m 21 ls [.int (u2.1 0)]) rfl ?_
    refine lv_if_ne (tgt := 28) hx hb dX12_by_21 (by decide) (fun c4 => ?_) (fun c4 => ?_)
    · have c4 := k_ne (a := (u2.1 0).toInt) (b := 0) rfl (by decide) c4
      refine lv_aload_n hx hb dX12_by_28 rfl (lv_at hl 0 rfl) ?_
      refine g_get (C := RX12) (T := TX12) (N := 29) (ci := 12) (v := .ref a15) FC hKn hP i_X12 1 rfl rfl 15 (by decide) b_965 rfl dX12_by_29 ?_
      refine lv_sipush (v := 256) hx hb dX12_by_32 (by decide) ?_
      refine lv_iload_n hx hb dX12_by_35 rfl (lv_at hl 1 rfl) ?_
      refine lv_iconst (v := 1) hx hb dX12_by_36 (by decide) ?_
      refine lv_iadd hx hb dX12_by_37 ?_
      have kc1 : (1 : Int32).toInt = 1 := by decide
      refine lv_topi (fun z5 e_z5 => ?_)
      have t_z5 : z5.toInt = p1.toInt + ((1 : Int32)).toInt := by rw [e_z5]; exact fb_addI (by omega) (by omega)
      refine lv_imul hx hb dX12_by_38 ?_
      have kc256 : (256 : Int32).toInt = 256 := by decide
      refine lv_topi (fun z6 e_z6 => ?_)
      have t_z6 : z6.toInt = 256 * z5.toInt := by rw [e_z6, fb_mulI (by rw [show (256 : Int32).toInt = 256 by decide]; omega) (by rw [show (256 : Int32).toInt = 256 by decide]; omega), show (256 : Int32).toInt = 256 by decide]
      refine lv_aload_n hx hb dX12_by_39 rfl (lv_at hl 0 rfl) ?_
      refine lv_iload_n hx hb dX12_by_40 rfl (lv_at hl 2 rfl) ?_
      refine lv_iload_n hx hb dX12_by_41 rfl (lv_at hl 3 rfl) ?_
      refine call_V (As := [.int p2, .int p3]) (rest := [.int z6, .ref a15]) (wr := [(a15, .inl (g.2 0, 2816, .inl mbest))]) FC hKn hZ (k_X12_behindOf l g h0 a1 a2 a3 a4 a6 a14 a15 a19 a20 a23 a24 a25 a26 a27 a28 mthrown mtaped msize mat mfrom mtoken mvalue mfaultKind mfaultPlace mgoal mgoalDays mgoalHearer mleastOrder mwordsMany mworld p2 p3 (by omega) (by omega) (by omega) (by omega) (by omega) (by omega) (by omega) (by omega) i_mworld (by omega) (by omega) (by omega)) m_yX12_behindOf b_854 (ci := 12) rfl rfl rfl hP hD hS hA [1, 2] [0] rfl (by decide) rfl (by decide) (by decide) rfl hl.1 rfl (Nat.le_of_ble_eq_true rfl) dX12_by_42 ⟨(Nat.le_of_ble_eq_true rfl), (Nat.le_of_ble_eq_true rfl)⟩ ⟨(Nat.le_of_ble_eq_true rfl), (Nat.le_of_ble_eq_true rfl)⟩ (fun u7 H locs q8 hP hD hS => ?_)
      have q8_0 : 1 ≤ (u7.1 0).toInt ∧ (u7.1 0).toInt ≤ 255 := q8
      have hP : va_P g.1 vwCl [(a15, .inl (g.2 0, 2816, .inl mbest)), (h0, .inr (12, [.int mthrown, .ref a1, .ref a2, .ref a3, .ref a4, .int mtaped, .ref a6, .int msize, .int mat, .int mfrom, .int mtoken, .int mvalue, .int mfaultKind, .int mfaultPlace, .ref a14, .ref a15, .int mgoal, .int mgoalDays, .int mgoalHearer, .ref a19, .ref a20, .int mleastOrder, .int mwordsMany, .ref a23, .ref a24, .ref a25, .ref a26, .ref a27, .ref a28])), (a1, .inl (g.2 0, 225, .inl mworld))] H := hP
      have hD : va_D A [(a15, .inl (g.2 0, 2816, .inl mbest)), (h0, .inr (12, [.int mthrown, .ref a1, .ref a2, .ref a3, .ref a4, .int mtaped, .ref a6, .int msize, .int mat, .int mfrom, .int mtoken, .int mvalue, .int mfaultKind, .int mfaultPlace, .ref a14, .ref a15, .int mgoal, .int mgoalDays, .int mgoalHearer, .ref a19, .ref a20, .int mleastOrder, .int mwordsMany, .ref a23, .ref a24, .ref a25, .ref a26, .ref a27, .ref a28])), (a1, .inl (g.2 0, 225, .inl mworld))] := hD
      refine W.eq (g2 := F0 m 45 ls [.int (u7.1 0), .int z6, .ref a15]) rfl ?_
      refine lv_iadd hx hb dX12_by_45 ?_
      refine lv_topi (fun z9 e_z9 => ?_)
      have t_z9 : z9.toInt = z6.toInt + (u7.1 0).toInt := by rw [e_z9]; exact fb_addI (by omega) (by omega)
      refine va_iald hx hb hKn.1 hP 0 0 rfl rfl (vp_in_iff.mpr ⟨by omega, by omega⟩) dX12_by_46 ?_
      refine lv_topi (fun z10 e_z10 => ?_)
      refine lv_istore (lv' := [(4, .int z10), (0, .ref h0), (1, .int p1), (2, .int p2), (3, .int p3)]) hx hb dX12_by_47 hl (by decide) rfl (fun ls hl => ?_)
      refine lv_iload hx hb dX12_by_49 (lv_at hl 0 rfl) ?_
      refine lv_ldcw hx hb hown (hB _ b_966) dX12_by_51 ?_
      refine lv_icmp_lt (tgt := 61) hx hb dX12_by_54 (by decide) (fun c11 => ?_) (fun c11 => ?_)
      · have c11 := k_lt (a := z10.toInt) (b := 1000000000) rfl (by decide) c11
        refine lv_aload_n hx hb dX12_by_61 rfl (lv_at hl 1 rfl) ?_
        refine g_get (C := RX12) (T := TX12) (N := 29) (ci := 12) (v := .int mgoal) FC hKn hP i_X12 1 rfl rfl 16 (by decide) b_964 rfl dX12_by_62 ?_
        refine lv_iconst (v := 3) hx hb dX12_by_65 (by decide) ?_
        refine lv_icmp_ne (tgt := 84) hx hb dX12_by_66 (by decide) (fun c12 => ?_) (fun c12 => ?_)
        · have c12 := k_ne (a := mgoal.toInt) (b := 3) rfl (by decide) c12
          refine lv_aload_n hx hb dX12_by_84 rfl (lv_at hl 1 rfl) ?_
          refine lv_aload_n hx hb dX12_by_85 rfl (lv_at hl 1 rfl) ?_
          refine g_get (C := RX12) (T := TX12) (N := 29) (ci := 12) (v := .int mgoalHearer) FC hKn hP i_X12 1 rfl rfl 18 (by decide) b_967 rfl dX12_by_86 ?_
          refine lv_iload_n hx hb dX12_by_89 rfl (lv_at hl 3 rfl) ?_
          refine lv_iload_n hx hb dX12_by_90 rfl (lv_at hl 4 rfl) ?_
          refine call_V (As := [.int mgoalHearer, .int p2, .int p3]) (rest := []) (wr := [(a15, .inl (g.2 0, 2816, .inl mbest))]) FC hKn hZ (k_X12_hurtOf l g h0 a1 a2 a3 a4 a6 a14 a15 a19 a20 a23 a24 a25 a26 a27 a28 mthrown mtaped msize mat mfrom mtoken mvalue mfaultKind mfaultPlace mgoal mgoalDays mgoalHearer mleastOrder mwordsMany mworld mgoalHearer p2 p3 (by omega) (by omega) (by omega) (by omega) (by omega) (by omega) (by omega) (by omega) i_mworld (by omega) (by omega) (by omega) (by omega)) m_yX12_hurtOf b_894 (ci := 12) rfl rfl rfl hP hD hS hA [1, 2] [0] rfl (by decide) rfl (by decide) (by decide) rfl hl.1 rfl (Nat.le_of_ble_eq_true rfl) dX12_by_91 ⟨(Nat.le_of_ble_eq_true rfl), (Nat.le_of_ble_eq_true rfl)⟩ ⟨(Nat.le_of_ble_eq_true rfl), (Nat.le_of_ble_eq_true rfl)⟩ (fun u13 H locs q14 hP hD hS => ?_)
          have hP : va_P g.1 vwCl [(a15, .inl (g.2 0, 2816, .inl mbest)), (h0, .inr (12, [.int mthrown, .ref a1, .ref a2, .ref a3, .ref a4, .int mtaped, .ref a6, .int msize, .int mat, .int mfrom, .int mtoken, .int mvalue, .int mfaultKind, .int mfaultPlace, .ref a14, .ref a15, .int mgoal, .int mgoalDays, .int mgoalHearer, .ref a19, .ref a20, .int mleastOrder, .int mwordsMany, .ref a23, .ref a24, .ref a25, .ref a26, .ref a27, .ref a28])), (a1, .inl (g.2 0, 225, .inl mworld))] H := hP
          have hD : va_D A [(a15, .inl (g.2 0, 2816, .inl mbest)), (h0, .inr (12, [.int mthrown, .ref a1, .ref a2, .ref a3, .ref a4, .int mtaped, .ref a6, .int msize, .int mat, .int mfrom, .int mtoken, .int mvalue, .int mfaultKind, .int mfaultPlace, .ref a14, .ref a15, .int mgoal, .int mgoalDays, .int mgoalHearer, .ref a19, .ref a20, .int mleastOrder, .int mwordsMany, .ref a23, .ref a24, .ref a25, .ref a26, .ref a27, .ref a28])), (a1, .inl (g.2 0, 225, .inl mworld))] := hD
          refine W.eq (g2 := F0 m 94 ls [.int (u13.1 0)]) rfl ?_
          refine lv_istore (lv' := [(5, .int (u13.1 0)), (4, .int z10), (0, .ref h0), (1, .int p1), (2, .int p2), (3, .int p3)]) hx hb dX12_by_94 hl (by decide) rfl (fun ls hl => ?_)
          refine lv_aload_n hx hb dX12_by_96 rfl (lv_at hl 2 rfl) ?_
          refine g_get (C := RX12) (T := TX12) (N := 29) (ci := 12) (v := .int mgoal) FC hKn hP i_X12 1 rfl rfl 16 (by decide) b_964 rfl dX12_by_97 ?_
          refine lv_iconst (v := 2) hx hb dX12_by_100 (by decide) ?_
          refine lv_icmp_eq (tgt := 112) hx hb dX12_by_101 (by decide) (fun c15 => ?_) (fun c15 => ?_)
          · have c15 := k_eq (a := mgoal.toInt) (b := 2) rfl (by decide) c15
            exfalso; omega
          · have c15 := k_ne (a := mgoal.toInt) (b := 2) rfl (by decide) c15
            refine lv_aload_n hx hb dX12_by_104 rfl (lv_at hl 2 rfl) ?_
            refine g_get (C := RX12) (T := TX12) (N := 29) (ci := 12) (v := .int mgoal) FC hKn hP i_X12 1 rfl rfl 16 (by decide) b_964 rfl dX12_by_105 ?_
            refine lv_iconst (v := 5) hx hb dX12_by_108 (by decide) ?_
            refine lv_icmp_ne (tgt := 122) hx hb dX12_by_109 (by decide) (fun c16 => ?_) (fun c16 => ?_)
            · have c16 := k_ne (a := mgoal.toInt) (b := 5) rfl (by decide) c16
              refine lv_iload hx hb dX12_by_122 (lv_at hl 1 rfl) ?_
              refine lv_aload_n hx hb dX12_by_124 rfl (lv_at hl 2 rfl) ?_
              refine lv_iload hx hb dX12_by_125 (lv_at hl 0 rfl) ?_
              refine lv_iload_n hx hb dX12_by_127 rfl (lv_at hl 3 rfl) ?_
              refine lv_aload_n hx hb dX12_by_128 rfl (lv_at hl 2 rfl) ?_
              refine g_get (C := RX12) (T := TX12) (N := 29) (ci := 12) (v := .int mgoalDays) FC hKn hP i_X12 1 rfl rfl 17 (by decide) b_968 rfl dX12_by_129 ?_
              refine call_V (As := [.int (u13.1 0), .int p1, .int mgoalDays]) (rest := [.int z10]) (wr := [(a15, .inl (g.2 0, 2816, .inl mbest))]) FC hKn hZ (k_X12_leftOf l g h0 a1 a2 a3 a4 a6 a14 a15 a19 a20 a23 a24 a25 a26 a27 a28 mthrown mtaped msize mat mfrom mtoken mvalue mfaultKind mfaultPlace mgoal mgoalDays mgoalHearer mleastOrder mwordsMany mworld (u13.1 0) p1 mgoalDays (by omega) (by omega) (by omega) (by omega) (by omega) (by omega) (by omega) (by omega) i_mworld) m_yX12_leftOf b_942 (ci := 12) rfl rfl rfl hP hD hS hA [1, 2] [0] rfl (by decide) rfl (by decide) (by decide) rfl hl.1 rfl (Nat.le_of_ble_eq_true rfl) dX12_by_132 ⟨(Nat.le_of_ble_eq_true rfl), (Nat.le_of_ble_eq_true rfl)⟩ ⟨(Nat.le_of_ble_eq_true rfl), (Nat.le_of_ble_eq_true rfl)⟩ (fun u17 H locs q18 hP hD hS => ?_)
              have hP : va_P g.1 vwCl [(a15, .inl (g.2 0, 2816, .inl mbest)), (h0, .inr (12, [.int mthrown, .ref a1, .ref a2, .ref a3, .ref a4, .int mtaped, .ref a6, .int msize, .int mat, .int mfrom, .int mtoken, .int mvalue, .int mfaultKind, .int mfaultPlace, .ref a14, .ref a15, .int mgoal, .int mgoalDays, .int mgoalHearer, .ref a19, .ref a20, .int mleastOrder, .int mwordsMany, .ref a23, .ref a24, .ref a25, .ref a26, .ref a27, .ref a28])), (a1, .inl (g.2 0, 225, .inl mworld))] H := hP
              have hD : va_D A [(a15, .inl (g.2 0, 2816, .inl mbest)), (h0, .inr (12, [.int mthrown, .ref a1, .ref a2, .ref a3, .ref a4, .int mtaped, .ref a6, .int msize, .int mat, .int mfrom, .int mtoken, .int mvalue, .int mfaultKind, .int mfaultPlace, .ref a14, .ref a15, .int mgoal, .int mgoalDays, .int mgoalHearer, .ref a19, .ref a20, .int mleastOrder, .int mwordsMany, .ref a23, .ref a24, .ref a25, .ref a26, .ref a27, .ref a28])), (a1, .inl (g.2 0, 225, .inl mworld))] := hD
              refine W.eq (g2 := F0 m 135 ls [.int (u17.1 0), .int z10]) rfl ?_
              refine lv_iadd hx hb dX12_by_135 ?_
              refine lv_topi (fun z19 e_z19 => ?_)
              refine lv_aload_n hx hb dX12_by_136 rfl (lv_at hl 2 rfl) ?_
              refine lv_iload_n hx hb dX12_by_137 rfl (lv_at hl 5 rfl) ?_
              refine call_V (As := [.int p3]) (rest := [.int z19]) (wr := [(a15, .inl (g.2 0, 2816, .inl mbest))]) FC hKn hZ (k_X12_shameOf l g h0 a1 a2 a3 a4 a6 a14 a15 a19 a20 a23 a24 a25 a26 a27 a28 mthrown mtaped msize mat mfrom mtoken mvalue mfaultKind mfaultPlace mgoal mgoalDays mgoalHearer mleastOrder mwordsMany mworld p3 (by omega) (by omega) (by omega) (by omega) (by omega) (by omega) (by omega) (by omega) i_mworld (by omega)) m_yX12_shameOf b_944 (ci := 12) rfl rfl rfl hP hD hS hA [1, 2] [0] rfl (by decide) rfl (by decide) (by decide) rfl hl.1 rfl (Nat.le_of_ble_eq_true rfl) dX12_by_138 ⟨(Nat.le_of_ble_eq_true rfl), (Nat.le_of_ble_eq_true rfl)⟩ ⟨(Nat.le_of_ble_eq_true rfl), (Nat.le_of_ble_eq_true rfl)⟩ (fun u20 H locs q21 hP hD hS => ?_)
              have hP : va_P g.1 vwCl [(a15, .inl (g.2 0, 2816, .inl mbest)), (h0, .inr (12, [.int mthrown, .ref a1, .ref a2, .ref a3, .ref a4, .int mtaped, .ref a6, .int msize, .int mat, .int mfrom, .int mtoken, .int mvalue, .int mfaultKind, .int mfaultPlace, .ref a14, .ref a15, .int mgoal, .int mgoalDays, .int mgoalHearer, .ref a19, .ref a20, .int mleastOrder, .int mwordsMany, .ref a23, .ref a24, .ref a25, .ref a26, .ref a27, .ref a28])), (a1, .inl (g.2 0, 225, .inl mworld))] H := hP
              have hD : va_D A [(a15, .inl (g.2 0, 2816, .inl mbest)), (h0, .inr (12, [.int mthrown, .ref a1, .ref a2, .ref a3, .ref a4, .int mtaped, .ref a6, .int msize, .int mat, .int mfrom, .int mtoken, .int mvalue, .int mfaultKind, .int mfaultPlace, .ref a14, .ref a15, .int mgoal, .int mgoalDays, .int mgoalHearer, .ref a19, .ref a20, .int mleastOrder, .int mwordsMany, .ref a23, .ref a24, .ref a25, .ref a26, .ref a27, .ref a28])), (a1, .inl (g.2 0, 225, .inl mworld))] := hD
              refine W.eq (g2 := F0 m 141 ls [.int (u20.1 0), .int z19]) rfl ?_
              refine lv_iadd hx hb dX12_by_141 ?_
              refine lv_topi (fun z22 e_z22 => ?_)
              exact rt_i FX ((fun k => match k with | 0 => z22 | _ => 0), (fun _ => fun _ => 0), (fun _ => fun _ => 0)) rfl trivial (hP.sub [1, 2, 0] rfl) (hD.sub [1, 2, 0] (by decide) rfl) hS (Nat.le_of_ble_eq_true rfl) (Nat.le_of_ble_eq_true rfl) dX12_by_142
            · have c16 := k_eq (a := mgoal.toInt) (b := 5) rfl (by decide) c16
              exfalso; omega
        · have c12 := k_eq (a := mgoal.toInt) (b := 3) rfl (by decide) c12
          exfalso; omega
      · have c11 := k_nlt (a := z10.toInt) (b := 1000000000) rfl (by decide) c11
        refine lv_ldcw hx hb hown (hB _ b_966) dX12_by_57 ?_
        exact rt_i FX ((fun k => match k with | 0 => (1000000000 : Int32) | _ => 0), (fun _ => fun _ => 0), (fun _ => fun _ => 0)) rfl trivial (hP.sub [1, 2, 0] rfl) (hD.sub [1, 2, 0] (by decide) rfl) hS (Nat.le_of_ble_eq_true rfl) (Nat.le_of_ble_eq_true rfl) dX12_by_60
    · have c4 := k_eq (a := (u2.1 0).toInt) (b := 0) rfl (by decide) c4
      refine lv_ldcw hx hb hown (hB _ b_966) dX12_by_24 ?_
      exact rt_i FX ((fun k => match k with | 0 => (1000000000 : Int32) | _ => 0), (fun _ => fun _ => 0), (fun _ => fun _ => 0)) rfl trivial (hP.sub [1, 2, 0] rfl) (hD.sub [1, 2, 0] (by decide) rfl) hS (Nat.le_of_ble_eq_true rfl) (Nat.le_of_ble_eq_true rfl) dX12_by_27
  · have c1 := k_ne (a := mgoal.toInt) (b := 1) rfl (by decide) c1
    refine lv_aload_n hx hb dX12_by_8 rfl (lv_at hl 0 rfl) ?_
    refine g_get (C := RX12) (T := TX12) (N := 29) (ci := 12) (v := .int mgoal) FC hKn hP i_X12 0 rfl rfl 16 (by decide) b_964 rfl dX12_by_9 ?_
    refine lv_iconst (v := 5) hx hb dX12_by_12 (by decide) ?_
    refine lv_icmp_ne (tgt := 28) hx hb dX12_by_13 (by decide) (fun c23 => ?_) (fun c23 => ?_)
    · have c23 := k_ne (a := mgoal.toInt) (b := 5) rfl (by decide) c23
      refine lv_aload_n hx hb dX12_by_28 rfl (lv_at hl 0 rfl) ?_
      refine g_get (C := RX12) (T := TX12) (N := 29) (ci := 12) (v := .ref a15) FC hKn hP i_X12 0 rfl rfl 15 (by decide) b_965 rfl dX12_by_29 ?_
      refine lv_sipush (v := 256) hx hb dX12_by_32 (by decide) ?_
      refine lv_iload_n hx hb dX12_by_35 rfl (lv_at hl 1 rfl) ?_
      refine lv_iconst (v := 1) hx hb dX12_by_36 (by decide) ?_
      refine lv_iadd hx hb dX12_by_37 ?_
      have kc1 : (1 : Int32).toInt = 1 := by decide
      refine lv_topi (fun z24 e_z24 => ?_)
      have t_z24 : z24.toInt = p1.toInt + ((1 : Int32)).toInt := by rw [e_z24]; exact fb_addI (by omega) (by omega)
      refine lv_imul hx hb dX12_by_38 ?_
      have kc256 : (256 : Int32).toInt = 256 := by decide
      refine lv_topi (fun z25 e_z25 => ?_)
      have t_z25 : z25.toInt = 256 * z24.toInt := by rw [e_z25, fb_mulI (by rw [show (256 : Int32).toInt = 256 by decide]; omega) (by rw [show (256 : Int32).toInt = 256 by decide]; omega), show (256 : Int32).toInt = 256 by decide]
      refine lv_aload_n hx hb dX12_by_39 rfl (lv_at hl 0 rfl) ?_
      refine lv_iload_n hx hb dX12_by_40 rfl (lv_at hl 2 rfl) ?_
      refine lv_iload_n hx hb dX12_by_41 rfl (lv_at hl 3 rfl) ?_
      refine call_V (As := [.int p2, .int p3]) (rest := [.int z25, .ref a15]) (wr := [(a15, .inl (g.2 0, 2816, .inl mbest))]) FC hKn hZ (k_X12_behindOf l g h0 a1 a2 a3 a4 a6 a14 a15 a19 a20 a23 a24 a25 a26 a27 a28 mthrown mtaped msize mat mfrom mtoken mvalue mfaultKind mfaultPlace mgoal mgoalDays mgoalHearer mleastOrder mwordsMany mworld p2 p3 (by omega) (by omega) (by omega) (by omega) (by omega) (by omega) (by omega) (by omega) i_mworld (by omega) (by omega) (by omega)) m_yX12_behindOf b_854 (ci := 12) rfl rfl rfl hP hD hS hA [0, 1] [2] rfl (by decide) rfl (by decide) (by decide) rfl hl.1 rfl (Nat.le_of_ble_eq_true rfl) dX12_by_42 ⟨(Nat.le_of_ble_eq_true rfl), (Nat.le_of_ble_eq_true rfl)⟩ ⟨(Nat.le_of_ble_eq_true rfl), (Nat.le_of_ble_eq_true rfl)⟩ (fun u26 H locs q27 hP hD hS => ?_)
      have q27_0 : 1 ≤ (u26.1 0).toInt ∧ (u26.1 0).toInt ≤ 255 := q27
      have hP : va_P g.1 vwCl [(a15, .inl (g.2 0, 2816, .inl mbest)), (h0, .inr (12, [.int mthrown, .ref a1, .ref a2, .ref a3, .ref a4, .int mtaped, .ref a6, .int msize, .int mat, .int mfrom, .int mtoken, .int mvalue, .int mfaultKind, .int mfaultPlace, .ref a14, .ref a15, .int mgoal, .int mgoalDays, .int mgoalHearer, .ref a19, .ref a20, .int mleastOrder, .int mwordsMany, .ref a23, .ref a24, .ref a25, .ref a26, .ref a27, .ref a28])), (a1, .inl (g.2 0, 225, .inl mworld))] H := hP
      have hD : va_D A [(a15, .inl (g.2 0, 2816, .inl mbest)), (h0, .inr (12, [.int mthrown, .ref a1, .ref a2, .ref a3, .ref a4, .int mtaped, .ref a6, .int msize, .int mat, .int mfrom, .int mtoken, .int mvalue, .int mfaultKind, .int mfaultPlace, .ref a14, .ref a15, .int mgoal, .int mgoalDays, .int mgoalHearer, .ref a19, .ref a20, .int mleastOrder, .int mwordsMany, .ref a23, .ref a24, .ref a25, .ref a26, .ref a27, .ref a28])), (a1, .inl (g.2 0, 225, .inl mworld))] := hD
      refine W.eq (g2 := F0 m 45 ls [.int (u26.1 0), .int z25, .ref a15]) rfl ?_
      refine lv_iadd hx hb dX12_by_45 ?_
      refine lv_topi (fun z28 e_z28 => ?_)
      have t_z28 : z28.toInt = z25.toInt + (u26.1 0).toInt := by rw [e_z28]; exact fb_addI (by omega) (by omega)
      refine va_iald hx hb hKn.1 hP 0 0 rfl rfl (vp_in_iff.mpr ⟨by omega, by omega⟩) dX12_by_46 ?_
      refine lv_topi (fun z29 e_z29 => ?_)
      refine lv_istore (lv' := [(4, .int z29), (0, .ref h0), (1, .int p1), (2, .int p2), (3, .int p3)]) hx hb dX12_by_47 hl (by decide) rfl (fun ls hl => ?_)
      refine lv_iload hx hb dX12_by_49 (lv_at hl 0 rfl) ?_
      refine lv_ldcw hx hb hown (hB _ b_966) dX12_by_51 ?_
      refine lv_icmp_lt (tgt := 61) hx hb dX12_by_54 (by decide) (fun c30 => ?_) (fun c30 => ?_)
      · have c30 := k_lt (a := z29.toInt) (b := 1000000000) rfl (by decide) c30
        refine lv_aload_n hx hb dX12_by_61 rfl (lv_at hl 1 rfl) ?_
        refine g_get (C := RX12) (T := TX12) (N := 29) (ci := 12) (v := .int mgoal) FC hKn hP i_X12 1 rfl rfl 16 (by decide) b_964 rfl dX12_by_62 ?_
        refine lv_iconst (v := 3) hx hb dX12_by_65 (by decide) ?_
        refine lv_icmp_ne (tgt := 84) hx hb dX12_by_66 (by decide) (fun c31 => ?_) (fun c31 => ?_)
        · have c31 := k_ne (a := mgoal.toInt) (b := 3) rfl (by decide) c31
          refine lv_aload_n hx hb dX12_by_84 rfl (lv_at hl 1 rfl) ?_
          refine lv_aload_n hx hb dX12_by_85 rfl (lv_at hl 1 rfl) ?_
          refine g_get (C := RX12) (T := TX12) (N := 29) (ci := 12) (v := .int mgoalHearer) FC hKn hP i_X12 1 rfl rfl 18 (by decide) b_967 rfl dX12_by_86 ?_
          refine lv_iload_n hx hb dX12_by_89 rfl (lv_at hl 3 rfl) ?_
          refine lv_iload_n hx hb dX12_by_90 rfl (lv_at hl 4 rfl) ?_
          refine call_V (As := [.int mgoalHearer, .int p2, .int p3]) (rest := []) (wr := [(a15, .inl (g.2 0, 2816, .inl mbest))]) FC hKn hZ (k_X12_hurtOf l g h0 a1 a2 a3 a4 a6 a14 a15 a19 a20 a23 a24 a25 a26 a27 a28 mthrown mtaped msize mat mfrom mtoken mvalue mfaultKind mfaultPlace mgoal mgoalDays mgoalHearer mleastOrder mwordsMany mworld mgoalHearer p2 p3 (by omega) (by omega) (by omega) (by omega) (by omega) (by omega) (by omega) (by omega) i_mworld (by omega) (by omega) (by omega) (by omega)) m_yX12_hurtOf b_894 (ci := 12) rfl rfl rfl hP hD hS hA [1, 2] [0] rfl (by decide) rfl (by decide) (by decide) rfl hl.1 rfl (Nat.le_of_ble_eq_true rfl) dX12_by_91 ⟨(Nat.le_of_ble_eq_true rfl), (Nat.le_of_ble_eq_true rfl)⟩ ⟨(Nat.le_of_ble_eq_true rfl), (Nat.le_of_ble_eq_true rfl)⟩ (fun u32 H locs q33 hP hD hS => ?_)
          have hP : va_P g.1 vwCl [(a15, .inl (g.2 0, 2816, .inl mbest)), (h0, .inr (12, [.int mthrown, .ref a1, .ref a2, .ref a3, .ref a4, .int mtaped, .ref a6, .int msize, .int mat, .int mfrom, .int mtoken, .int mvalue, .int mfaultKind, .int mfaultPlace, .ref a14, .ref a15, .int mgoal, .int mgoalDays, .int mgoalHearer, .ref a19, .ref a20, .int mleastOrder, .int mwordsMany, .ref a23, .ref a24, .ref a25, .ref a26, .ref a27, .ref a28])), (a1, .inl (g.2 0, 225, .inl mworld))] H := hP
          have hD : va_D A [(a15, .inl (g.2 0, 2816, .inl mbest)), (h0, .inr (12, [.int mthrown, .ref a1, .ref a2, .ref a3, .ref a4, .int mtaped, .ref a6, .int msize, .int mat, .int mfrom, .int mtoken, .int mvalue, .int mfaultKind, .int mfaultPlace, .ref a14, .ref a15, .int mgoal, .int mgoalDays, .int mgoalHearer, .ref a19, .ref a20, .int mleastOrder, .int mwordsMany, .ref a23, .ref a24, .ref a25, .ref a26, .ref a27, .ref a28])), (a1, .inl (g.2 0, 225, .inl mworld))] := hD
          refine W.eq (g2 := F0 m 94 ls [.int (u32.1 0)]) rfl ?_
          refine lv_istore (lv' := [(5, .int (u32.1 0)), (4, .int z29), (0, .ref h0), (1, .int p1), (2, .int p2), (3, .int p3)]) hx hb dX12_by_94 hl (by decide) rfl (fun ls hl => ?_)
          refine lv_aload_n hx hb dX12_by_96 rfl (lv_at hl 2 rfl) ?_
          refine g_get (C := RX12) (T := TX12) (N := 29) (ci := 12) (v := .int mgoal) FC hKn hP i_X12 1 rfl rfl 16 (by decide) b_964 rfl dX12_by_97 ?_
          refine lv_iconst (v := 2) hx hb dX12_by_100 (by decide) ?_
          refine lv_icmp_eq (tgt := 112) hx hb dX12_by_101 (by decide) (fun c34 => ?_) (fun c34 => ?_)
          · have c34 := k_eq (a := mgoal.toInt) (b := 2) rfl (by decide) c34
            refine lv_iload hx hb dX12_by_112 (lv_at hl 1 rfl) ?_
            refine lv_iload hx hb dX12_by_114 (lv_at hl 0 rfl) ?_
            refine va_mmax hx hb (by rw [hml]; exact hl.1.symm) hown (hB _ b_856) (hB _ b_57) (hB _ b_58) (hB _ b_59) (Nat.le_of_ble_eq_true rfl) (Nat.le_of_ble_eq_true rfl) (Nat.le_of_ble_eq_true rfl) (Nat.le_of_ble_eq_true rfl) dX12_by_116 ?_
            refine lv_topi (fun z35 e_z35 => ?_)
            have t_z35 : (z29.toInt ≤ z35.toInt ∧ (u32.1 0).toInt ≤ z35.toInt ∧ (z35.toInt = z29.toInt ∨ z35.toInt = (u32.1 0).toInt)) := by rw [e_z35]; exact mmax_b _ _
            refine lv_goto (tgt := 142) hx hb dX12_by_119 (by decide) ?_
            exact rt_i FX ((fun k => match k with | 0 => z35 | _ => 0), (fun _ => fun _ => 0), (fun _ => fun _ => 0)) rfl trivial (hP.sub [1, 2, 0] rfl) (hD.sub [1, 2, 0] (by decide) rfl) hS (Nat.le_of_ble_eq_true rfl) (Nat.le_of_ble_eq_true rfl) dX12_by_142
          · have c34 := k_ne (a := mgoal.toInt) (b := 2) rfl (by decide) c34
            refine lv_aload_n hx hb dX12_by_104 rfl (lv_at hl 2 rfl) ?_
            refine g_get (C := RX12) (T := TX12) (N := 29) (ci := 12) (v := .int mgoal) FC hKn hP i_X12 1 rfl rfl 16 (by decide) b_964 rfl dX12_by_105 ?_
            refine lv_iconst (v := 5) hx hb dX12_by_108 (by decide) ?_
            refine lv_icmp_ne (tgt := 122) hx hb dX12_by_109 (by decide) (fun c36 => ?_) (fun c36 => ?_)
            · have c36 := k_ne (a := mgoal.toInt) (b := 5) rfl (by decide) c36
              refine lv_iload hx hb dX12_by_122 (lv_at hl 1 rfl) ?_
              refine lv_aload_n hx hb dX12_by_124 rfl (lv_at hl 2 rfl) ?_
              refine lv_iload hx hb dX12_by_125 (lv_at hl 0 rfl) ?_
              refine lv_iload_n hx hb dX12_by_127 rfl (lv_at hl 3 rfl) ?_
              refine lv_aload_n hx hb dX12_by_128 rfl (lv_at hl 2 rfl) ?_
              refine g_get (C := RX12) (T := TX12) (N := 29) (ci := 12) (v := .int mgoalDays) FC hKn hP i_X12 1 rfl rfl 17 (by decide) b_968 rfl dX12_by_129 ?_
              refine call_V (As := [.int (u32.1 0), .int p1, .int mgoalDays]) (rest := [.int z29]) (wr := [(a15, .inl (g.2 0, 2816, .inl mbest))]) FC hKn hZ (k_X12_leftOf l g h0 a1 a2 a3 a4 a6 a14 a15 a19 a20 a23 a24 a25 a26 a27 a28 mthrown mtaped msize mat mfrom mtoken mvalue mfaultKind mfaultPlace mgoal mgoalDays mgoalHearer mleastOrder mwordsMany mworld (u32.1 0) p1 mgoalDays (by omega) (by omega) (by omega) (by omega) (by omega) (by omega) (by omega) (by omega) i_mworld) m_yX12_leftOf b_942 (ci := 12) rfl rfl rfl hP hD hS hA [1, 2] [0] rfl (by decide) rfl (by decide) (by decide) rfl hl.1 rfl (Nat.le_of_ble_eq_true rfl) dX12_by_132 ⟨(Nat.le_of_ble_eq_true rfl), (Nat.le_of_ble_eq_true rfl)⟩ ⟨(Nat.le_of_ble_eq_true rfl), (Nat.le_of_ble_eq_true rfl)⟩ (fun u37 H locs q38 hP hD hS => ?_)
              have hP : va_P g.1 vwCl [(a15, .inl (g.2 0, 2816, .inl mbest)), (h0, .inr (12, [.int mthrown, .ref a1, .ref a2, .ref a3, .ref a4, .int mtaped, .ref a6, .int msize, .int mat, .int mfrom, .int mtoken, .int mvalue, .int mfaultKind, .int mfaultPlace, .ref a14, .ref a15, .int mgoal, .int mgoalDays, .int mgoalHearer, .ref a19, .ref a20, .int mleastOrder, .int mwordsMany, .ref a23, .ref a24, .ref a25, .ref a26, .ref a27, .ref a28])), (a1, .inl (g.2 0, 225, .inl mworld))] H := hP
              have hD : va_D A [(a15, .inl (g.2 0, 2816, .inl mbest)), (h0, .inr (12, [.int mthrown, .ref a1, .ref a2, .ref a3, .ref a4, .int mtaped, .ref a6, .int msize, .int mat, .int mfrom, .int mtoken, .int mvalue, .int mfaultKind, .int mfaultPlace, .ref a14, .ref a15, .int mgoal, .int mgoalDays, .int mgoalHearer, .ref a19, .ref a20, .int mleastOrder, .int mwordsMany, .ref a23, .ref a24, .ref a25, .ref a26, .ref a27, .ref a28])), (a1, .inl (g.2 0, 225, .inl mworld))] := hD
              refine W.eq (g2 := F0 m 135 ls [.int (u37.1 0), .int z29]) rfl ?_
              refine lv_iadd hx hb dX12_by_135 ?_
              refine lv_topi (fun z39 e_z39 => ?_)
              refine lv_aload_n hx hb dX12_by_136 rfl (lv_at hl 2 rfl) ?_
              refine lv_iload_n hx hb dX12_by_137 rfl (lv_at hl 5 rfl) ?_
              refine call_V (As := [.int p3]) (rest := [.int z39]) (wr := [(a15, .inl (g.2 0, 2816, .inl mbest))]) FC hKn hZ (k_X12_shameOf l g h0 a1 a2 a3 a4 a6 a14 a15 a19 a20 a23 a24 a25 a26 a27 a28 mthrown mtaped msize mat mfrom mtoken mvalue mfaultKind mfaultPlace mgoal mgoalDays mgoalHearer mleastOrder mwordsMany mworld p3 (by omega) (by omega) (by omega) (by omega) (by omega) (by omega) (by omega) (by omega) i_mworld (by omega)) m_yX12_shameOf b_944 (ci := 12) rfl rfl rfl hP hD hS hA [1, 2] [0] rfl (by decide) rfl (by decide) (by decide) rfl hl.1 rfl (Nat.le_of_ble_eq_true rfl) dX12_by_138 ⟨(Nat.le_of_ble_eq_true rfl), (Nat.le_of_ble_eq_true rfl)⟩ ⟨(Nat.le_of_ble_eq_true rfl), (Nat.le_of_ble_eq_true rfl)⟩ (fun u40 H locs q41 hP hD hS => ?_)
              have hP : va_P g.1 vwCl [(a15, .inl (g.2 0, 2816, .inl mbest)), (h0, .inr (12, [.int mthrown, .ref a1, .ref a2, .ref a3, .ref a4, .int mtaped, .ref a6, .int msize, .int mat, .int mfrom, .int mtoken, .int mvalue, .int mfaultKind, .int mfaultPlace, .ref a14, .ref a15, .int mgoal, .int mgoalDays, .int mgoalHearer, .ref a19, .ref a20, .int mleastOrder, .int mwordsMany, .ref a23, .ref a24, .ref a25, .ref a26, .ref a27, .ref a28])), (a1, .inl (g.2 0, 225, .inl mworld))] H := hP
              have hD : va_D A [(a15, .inl (g.2 0, 2816, .inl mbest)), (h0, .inr (12, [.int mthrown, .ref a1, .ref a2, .ref a3, .ref a4, .int mtaped, .ref a6, .int msize, .int mat, .int mfrom, .int mtoken, .int mvalue, .int mfaultKind, .int mfaultPlace, .ref a14, .ref a15, .int mgoal, .int mgoalDays, .int mgoalHearer, .ref a19, .ref a20, .int mleastOrder, .int mwordsMany, .ref a23, .ref a24, .ref a25, .ref a26, .ref a27, .ref a28])), (a1, .inl (g.2 0, 225, .inl mworld))] := hD
              refine W.eq (g2 := F0 m 141 ls [.int (u40.1 0), .int z39]) rfl ?_
              refine lv_iadd hx hb dX12_by_141 ?_
              refine lv_topi (fun z42 e_z42 => ?_)
              exact rt_i FX ((fun k => match k with | 0 => z42 | _ => 0), (fun _ => fun _ => 0), (fun _ => fun _ => 0)) rfl trivial (hP.sub [1, 2, 0] rfl) (hD.sub [1, 2, 0] (by decide) rfl) hS (Nat.le_of_ble_eq_true rfl) (Nat.le_of_ble_eq_true rfl) dX12_by_142
            · have c36 := k_eq (a := mgoal.toInt) (b := 5) rfl (by decide) c36
              refine lv_iload hx hb dX12_by_112 (lv_at hl 1 rfl) ?_
              refine lv_iload hx hb dX12_by_114 (lv_at hl 0 rfl) ?_
              refine va_mmax hx hb (by rw [hml]; exact hl.1.symm) hown (hB _ b_856) (hB _ b_57) (hB _ b_58) (hB _ b_59) (Nat.le_of_ble_eq_true rfl) (Nat.le_of_ble_eq_true rfl) (Nat.le_of_ble_eq_true rfl) (Nat.le_of_ble_eq_true rfl) dX12_by_116 ?_
              refine lv_topi (fun z43 e_z43 => ?_)
              have t_z43 : (z29.toInt ≤ z43.toInt ∧ (u32.1 0).toInt ≤ z43.toInt ∧ (z43.toInt = z29.toInt ∨ z43.toInt = (u32.1 0).toInt)) := by rw [e_z43]; exact mmax_b _ _
              refine lv_goto (tgt := 142) hx hb dX12_by_119 (by decide) ?_
              exact rt_i FX ((fun k => match k with | 0 => z43 | _ => 0), (fun _ => fun _ => 0), (fun _ => fun _ => 0)) rfl trivial (hP.sub [1, 2, 0] rfl) (hD.sub [1, 2, 0] (by decide) rfl) hS (Nat.le_of_ble_eq_true rfl) (Nat.le_of_ble_eq_true rfl) dX12_by_142
        · have c31 := k_eq (a := mgoal.toInt) (b := 3) rfl (by decide) c31
          refine lv_iload hx hb dX12_by_69 (lv_at hl 0 rfl) ?_
          refine lv_iload_n hx hb dX12_by_71 rfl (lv_at hl 4 rfl) ?_
          refine lv_bipush (v := 8) hx hb dX12_by_72 (by decide) ?_
          refine lv_icmp_ne (tgt := 81) hx hb dX12_by_74 (by decide) (fun c44 => ?_) (fun c44 => ?_)
          · have c44 := k_ne (a := p3.toInt) (b := 8) rfl (by decide) c44
            refine lv_iconst (v := 1) hx hb dX12_by_81 (by decide) ?_
            refine lv_iadd hx hb dX12_by_82 ?_
            have rg45 := fb_rng z29
            refine lv_topi (fun z46 e_z46 => ?_)
            have t_z46 : z46.toInt = z29.toInt + ((1 : Int32)).toInt := by rw [e_z46]; exact fb_addI (by omega) (by omega)
            exact rt_i FX ((fun k => match k with | 0 => z46 | _ => 0), (fun _ => fun _ => 0), (fun _ => fun _ => 0)) rfl trivial (hP.sub [1, 2, 0] rfl) (hD.sub [1, 2, 0] (by decide) rfl) hS (Nat.le_of_ble_eq_true rfl) (Nat.le_of_ble_eq_true rfl) dX12_by_83
          · have c44 := k_eq (a := p3.toInt) (b := 8) rfl (by decide) c44
            refine lv_iconst (v := 0) hx hb dX12_by_77 (by decide) ?_
            refine lv_goto (tgt := 82) hx hb dX12_by_78 (by decide) ?_
            refine lv_iadd hx hb dX12_by_82 ?_
            have rg47 := fb_rng z29
            have kc0 : (0 : Int32).toInt = 0 := by decide
            refine lv_topi (fun z48 e_z48 => ?_)
            have t_z48 : z48.toInt = z29.toInt + ((0 : Int32)).toInt := by rw [e_z48]; exact fb_addI (by omega) (by omega)
            exact rt_i FX ((fun k => match k with | 0 => z48 | _ => 0), (fun _ => fun _ => 0), (fun _ => fun _ => 0)) rfl trivial (hP.sub [1, 2, 0] rfl) (hD.sub [1, 2, 0] (by decide) rfl) hS (Nat.le_of_ble_eq_true rfl) (Nat.le_of_ble_eq_true rfl) dX12_by_83
      · have c30 := k_nlt (a := z29.toInt) (b := 1000000000) rfl (by decide) c30
        refine lv_ldcw hx hb hown (hB _ b_966) dX12_by_57 ?_
        exact rt_i FX ((fun k => match k with | 0 => (1000000000 : Int32) | _ => 0), (fun _ => fun _ => 0), (fun _ => fun _ => 0)) rfl trivial (hP.sub [1, 2, 0] rfl) (hD.sub [1, 2, 0] (by decide) rfl) hS (Nat.le_of_ble_eq_true rfl) (Nat.le_of_ble_eq_true rfl) dX12_by_60
    · have c23 := k_eq (a := mgoal.toInt) (b := 5) rfl (by decide) c23
      refine lv_aload_n hx hb dX12_by_16 rfl (lv_at hl 0 rfl) ?_
      refine lv_iload_n hx hb dX12_by_17 rfl (lv_at hl 3 rfl) ?_
      refine call_V (As := [.int p3]) (rest := []) (wr := [(a15, .inl (g.2 0, 2816, .inl mbest))]) FC hKn hZ (k_X12_isTrue l g h0 a1 a2 a3 a4 a6 a14 a15 a19 a20 a23 a24 a25 a26 a27 a28 mthrown mtaped msize mat mfrom mtoken mvalue mfaultKind mfaultPlace mgoal mgoalDays mgoalHearer mleastOrder mwordsMany mworld p3 (by omega) (by omega) (by omega) (by omega) (by omega) (by omega) (by omega) (by omega) i_mworld (by omega)) m_yX12_isTrue b_850 (ci := 12) rfl rfl rfl hP hD hS hA [0, 1] [2] rfl (by decide) rfl (by decide) (by decide) rfl hl.1 rfl (Nat.le_of_ble_eq_true rfl) dX12_by_18 ⟨(Nat.le_of_ble_eq_true rfl), (Nat.le_of_ble_eq_true rfl)⟩ ⟨(Nat.le_of_ble_eq_true rfl), (Nat.le_of_ble_eq_true rfl)⟩ (fun u49 H locs q50 hP hD hS => ?_)
      have q50_0 : 0 ≤ (u49.1 0).toInt ∧ (u49.1 0).toInt ≤ 1 := q50
      have hP : va_P g.1 vwCl [(a15, .inl (g.2 0, 2816, .inl mbest)), (h0, .inr (12, [.int mthrown, .ref a1, .ref a2, .ref a3, .ref a4, .int mtaped, .ref a6, .int msize, .int mat, .int mfrom, .int mtoken, .int mvalue, .int mfaultKind, .int mfaultPlace, .ref a14, .ref a15, .int mgoal, .int mgoalDays, .int mgoalHearer, .ref a19, .ref a20, .int mleastOrder, .int mwordsMany, .ref a23, .ref a24, .ref a25, .ref a26, .ref a27, .ref a28])), (a1, .inl (g.2 0, 225, .inl mworld))] H := hP
      have hD : va_D A [(a15, .inl (g.2 0, 2816, .inl mbest)), (h0, .inr (12, [.int mthrown, .ref a1, .ref a2, .ref a3, .ref a4, .int mtaped, .ref a6, .int msize, .int mat, .int mfrom, .int mtoken, .int mvalue, .int mfaultKind, .int mfaultPlace, .ref a14, .ref a15, .int mgoal, .int mgoalDays, .int mgoalHearer, .ref a19, .ref a20, .int mleastOrder, .int mwordsMany, .ref a23, .ref a24, .ref a25, .ref a26, .ref a27, .ref a28])), (a1, .inl (g.2 0, 225, .inl mworld))] := hD
      refine W.eq (g2 := F0 m 21 ls [.int (u49.1 0)]) rfl ?_
      refine lv_if_ne (tgt := 28) hx hb dX12_by_21 (by decide) (fun c51 => ?_) (fun c51 => ?_)
      · have c51 := k_ne (a := (u49.1 0).toInt) (b := 0) rfl (by decide) c51
        refine lv_aload_n hx hb dX12_by_28 rfl (lv_at hl 0 rfl) ?_
        refine g_get (C := RX12) (T := TX12) (N := 29) (ci := 12) (v := .ref a15) FC hKn hP i_X12 1 rfl rfl 15 (by decide) b_965 rfl dX12_by_29 ?_
        refine lv_sipush (v := 256) hx hb dX12_by_32 (by decide) ?_
        refine lv_iload_n hx hb dX12_by_35 rfl (lv_at hl 1 rfl) ?_
        refine lv_iconst (v := 1) hx hb dX12_by_36 (by decide) ?_
        refine lv_iadd hx hb dX12_by_37 ?_
        have kc1 : (1 : Int32).toInt = 1 := by decide
        refine lv_topi (fun z52 e_z52 => ?_)
        have t_z52 : z52.toInt = p1.toInt + ((1 : Int32)).toInt := by rw [e_z52]; exact fb_addI (by omega) (by omega)
        refine lv_imul hx hb dX12_by_38 ?_
        have kc256 : (256 : Int32).toInt = 256 := by decide
        refine lv_topi (fun z53 e_z53 => ?_)
        have t_z53 : z53.toInt = 256 * z52.toInt := by rw [e_z53, fb_mulI (by rw [show (256 : Int32).toInt = 256 by decide]; omega) (by rw [show (256 : Int32).toInt = 256 by decide]; omega), show (256 : Int32).toInt = 256 by decide]
        refine lv_aload_n hx hb dX12_by_39 rfl (lv_at hl 0 rfl) ?_
        refine lv_iload_n hx hb dX12_by_40 rfl (lv_at hl 2 rfl) ?_
        refine lv_iload_n hx hb dX12_by_41 rfl (lv_at hl 3 rfl) ?_
        refine call_V (As := [.int p2, .int p3]) (rest := [.int z53, .ref a15]) (wr := [(a15, .inl (g.2 0, 2816, .inl mbest))]) FC hKn hZ (k_X12_behindOf l g h0 a1 a2 a3 a4 a6 a14 a15 a19 a20 a23 a24 a25 a26 a27 a28 mthrown mtaped msize mat mfrom mtoken mvalue mfaultKind mfaultPlace mgoal mgoalDays mgoalHearer mleastOrder mwordsMany mworld p2 p3 (by omega) (by omega) (by omega) (by omega) (by omega) (by omega) (by omega) (by omega) i_mworld (by omega) (by omega) (by omega)) m_yX12_behindOf b_854 (ci := 12) rfl rfl rfl hP hD hS hA [1, 2] [0] rfl (by decide) rfl (by decide) (by decide) rfl hl.1 rfl (Nat.le_of_ble_eq_true rfl) dX12_by_42 ⟨(Nat.le_of_ble_eq_true rfl), (Nat.le_of_ble_eq_true rfl)⟩ ⟨(Nat.le_of_ble_eq_true rfl), (Nat.le_of_ble_eq_true rfl)⟩ (fun u54 H locs q55 hP hD hS => ?_)
        have q55_0 : 1 ≤ (u54.1 0).toInt ∧ (u54.1 0).toInt ≤ 255 := q55
        have hP : va_P g.1 vwCl [(a15, .inl (g.2 0, 2816, .inl mbest)), (h0, .inr (12, [.int mthrown, .ref a1, .ref a2, .ref a3, .ref a4, .int mtaped, .ref a6, .int msize, .int mat, .int mfrom, .int mtoken, .int mvalue, .int mfaultKind, .int mfaultPlace, .ref a14, .ref a15, .int mgoal, .int mgoalDays, .int mgoalHearer, .ref a19, .ref a20, .int mleastOrder, .int mwordsMany, .ref a23, .ref a24, .ref a25, .ref a26, .ref a27, .ref a28])), (a1, .inl (g.2 0, 225, .inl mworld))] H := hP
        have hD : va_D A [(a15, .inl (g.2 0, 2816, .inl mbest)), (h0, .inr (12, [.int mthrown, .ref a1, .ref a2, .ref a3, .ref a4, .int mtaped, .ref a6, .int msize, .int mat, .int mfrom, .int mtoken, .int mvalue, .int mfaultKind, .int mfaultPlace, .ref a14, .ref a15, .int mgoal, .int mgoalDays, .int mgoalHearer, .ref a19, .ref a20, .int mleastOrder, .int mwordsMany, .ref a23, .ref a24, .ref a25, .ref a26, .ref a27, .ref a28])), (a1, .inl (g.2 0, 225, .inl mworld))] := hD
        refine W.eq (g2 := F0 m 45 ls [.int (u54.1 0), .int z53, .ref a15]) rfl ?_
        refine lv_iadd hx hb dX12_by_45 ?_
        refine lv_topi (fun z56 e_z56 => ?_)
        have t_z56 : z56.toInt = z53.toInt + (u54.1 0).toInt := by rw [e_z56]; exact fb_addI (by omega) (by omega)
        refine va_iald hx hb hKn.1 hP 0 0 rfl rfl (vp_in_iff.mpr ⟨by omega, by omega⟩) dX12_by_46 ?_
        refine lv_topi (fun z57 e_z57 => ?_)
        refine lv_istore (lv' := [(4, .int z57), (0, .ref h0), (1, .int p1), (2, .int p2), (3, .int p3)]) hx hb dX12_by_47 hl (by decide) rfl (fun ls hl => ?_)
        refine lv_iload hx hb dX12_by_49 (lv_at hl 0 rfl) ?_
        refine lv_ldcw hx hb hown (hB _ b_966) dX12_by_51 ?_
        refine lv_icmp_lt (tgt := 61) hx hb dX12_by_54 (by decide) (fun c58 => ?_) (fun c58 => ?_)
        · have c58 := k_lt (a := z57.toInt) (b := 1000000000) rfl (by decide) c58
          refine lv_aload_n hx hb dX12_by_61 rfl (lv_at hl 1 rfl) ?_
          refine g_get (C := RX12) (T := TX12) (N := 29) (ci := 12) (v := .int mgoal) FC hKn hP i_X12 1 rfl rfl 16 (by decide) b_964 rfl dX12_by_62 ?_
          refine lv_iconst (v := 3) hx hb dX12_by_65 (by decide) ?_
          refine lv_icmp_ne (tgt := 84) hx hb dX12_by_66 (by decide) (fun c59 => ?_) (fun c59 => ?_)
          · have c59 := k_ne (a := mgoal.toInt) (b := 3) rfl (by decide) c59
            refine lv_aload_n hx hb dX12_by_84 rfl (lv_at hl 1 rfl) ?_
            refine lv_aload_n hx hb dX12_by_85 rfl (lv_at hl 1 rfl) ?_
            refine g_get (C := RX12) (T := TX12) (N := 29) (ci := 12) (v := .int mgoalHearer) FC hKn hP i_X12 1 rfl rfl 18 (by decide) b_967 rfl dX12_by_86 ?_
            refine lv_iload_n hx hb dX12_by_89 rfl (lv_at hl 3 rfl) ?_
            refine lv_iload_n hx hb dX12_by_90 rfl (lv_at hl 4 rfl) ?_
            refine call_V (As := [.int mgoalHearer, .int p2, .int p3]) (rest := []) (wr := [(a15, .inl (g.2 0, 2816, .inl mbest))]) FC hKn hZ (k_X12_hurtOf l g h0 a1 a2 a3 a4 a6 a14 a15 a19 a20 a23 a24 a25 a26 a27 a28 mthrown mtaped msize mat mfrom mtoken mvalue mfaultKind mfaultPlace mgoal mgoalDays mgoalHearer mleastOrder mwordsMany mworld mgoalHearer p2 p3 (by omega) (by omega) (by omega) (by omega) (by omega) (by omega) (by omega) (by omega) i_mworld (by omega) (by omega) (by omega) (by omega)) m_yX12_hurtOf b_894 (ci := 12) rfl rfl rfl hP hD hS hA [1, 2] [0] rfl (by decide) rfl (by decide) (by decide) rfl hl.1 rfl (Nat.le_of_ble_eq_true rfl) dX12_by_91 ⟨(Nat.le_of_ble_eq_true rfl), (Nat.le_of_ble_eq_true rfl)⟩ ⟨(Nat.le_of_ble_eq_true rfl), (Nat.le_of_ble_eq_true rfl)⟩ (fun u60 H locs q61 hP hD hS => ?_)
            have hP : va_P g.1 vwCl [(a15, .inl (g.2 0, 2816, .inl mbest)), (h0, .inr (12, [.int mthrown, .ref a1, .ref a2, .ref a3, .ref a4, .int mtaped, .ref a6, .int msize, .int mat, .int mfrom, .int mtoken, .int mvalue, .int mfaultKind, .int mfaultPlace, .ref a14, .ref a15, .int mgoal, .int mgoalDays, .int mgoalHearer, .ref a19, .ref a20, .int mleastOrder, .int mwordsMany, .ref a23, .ref a24, .ref a25, .ref a26, .ref a27, .ref a28])), (a1, .inl (g.2 0, 225, .inl mworld))] H := hP
            have hD : va_D A [(a15, .inl (g.2 0, 2816, .inl mbest)), (h0, .inr (12, [.int mthrown, .ref a1, .ref a2, .ref a3, .ref a4, .int mtaped, .ref a6, .int msize, .int mat, .int mfrom, .int mtoken, .int mvalue, .int mfaultKind, .int mfaultPlace, .ref a14, .ref a15, .int mgoal, .int mgoalDays, .int mgoalHearer, .ref a19, .ref a20, .int mleastOrder, .int mwordsMany, .ref a23, .ref a24, .ref a25, .ref a26, .ref a27, .ref a28])), (a1, .inl (g.2 0, 225, .inl mworld))] := hD
            refine W.eq (g2 := F0 m 94 ls [.int (u60.1 0)]) rfl ?_
            refine lv_istore (lv' := [(5, .int (u60.1 0)), (4, .int z57), (0, .ref h0), (1, .int p1), (2, .int p2), (3, .int p3)]) hx hb dX12_by_94 hl (by decide) rfl (fun ls hl => ?_)
            refine lv_aload_n hx hb dX12_by_96 rfl (lv_at hl 2 rfl) ?_
            refine g_get (C := RX12) (T := TX12) (N := 29) (ci := 12) (v := .int mgoal) FC hKn hP i_X12 1 rfl rfl 16 (by decide) b_964 rfl dX12_by_97 ?_
            refine lv_iconst (v := 2) hx hb dX12_by_100 (by decide) ?_
            refine lv_icmp_eq (tgt := 112) hx hb dX12_by_101 (by decide) (fun c62 => ?_) (fun c62 => ?_)
            · have c62 := k_eq (a := mgoal.toInt) (b := 2) rfl (by decide) c62
              exfalso; omega
            · have c62 := k_ne (a := mgoal.toInt) (b := 2) rfl (by decide) c62
              refine lv_aload_n hx hb dX12_by_104 rfl (lv_at hl 2 rfl) ?_
              refine g_get (C := RX12) (T := TX12) (N := 29) (ci := 12) (v := .int mgoal) FC hKn hP i_X12 1 rfl rfl 16 (by decide) b_964 rfl dX12_by_105 ?_
              refine lv_iconst (v := 5) hx hb dX12_by_108 (by decide) ?_
              refine lv_icmp_ne (tgt := 122) hx hb dX12_by_109 (by decide) (fun c63 => ?_) (fun c63 => ?_)
              · have c63 := k_ne (a := mgoal.toInt) (b := 5) rfl (by decide) c63
                exfalso; omega
              · have c63 := k_eq (a := mgoal.toInt) (b := 5) rfl (by decide) c63
                refine lv_iload hx hb dX12_by_112 (lv_at hl 1 rfl) ?_
                refine lv_iload hx hb dX12_by_114 (lv_at hl 0 rfl) ?_
                refine va_mmax hx hb (by rw [hml]; exact hl.1.symm) hown (hB _ b_856) (hB _ b_57) (hB _ b_58) (hB _ b_59) (Nat.le_of_ble_eq_true rfl) (Nat.le_of_ble_eq_true rfl) (Nat.le_of_ble_eq_true rfl) (Nat.le_of_ble_eq_true rfl) dX12_by_116 ?_
                refine lv_topi (fun z64 e_z64 => ?_)
                have t_z64 : (z57.toInt ≤ z64.toInt ∧ (u60.1 0).toInt ≤ z64.toInt ∧ (z64.toInt = z57.toInt ∨ z64.toInt = (u60.1 0).toInt)) := by rw [e_z64]; exact mmax_b _ _
                refine lv_goto (tgt := 142) hx hb dX12_by_119 (by decide) ?_
                exact rt_i FX ((fun k => match k with | 0 => z64 | _ => 0), (fun _ => fun _ => 0), (fun _ => fun _ => 0)) rfl trivial (hP.sub [1, 2, 0] rfl) (hD.sub [1, 2, 0] (by decide) rfl) hS (Nat.le_of_ble_eq_true rfl) (Nat.le_of_ble_eq_true rfl) dX12_by_142
          · have c59 := k_eq (a := mgoal.toInt) (b := 3) rfl (by decide) c59
            exfalso; omega
        · have c58 := k_nlt (a := z57.toInt) (b := 1000000000) rfl (by decide) c58
          refine lv_ldcw hx hb hown (hB _ b_966) dX12_by_57 ?_
          exact rt_i FX ((fun k => match k with | 0 => (1000000000 : Int32) | _ => 0), (fun _ => fun _ => 0), (fun _ => fun _ => 0)) rfl trivial (hP.sub [1, 2, 0] rfl) (hD.sub [1, 2, 0] (by decide) rfl) hS (Nat.le_of_ble_eq_true rfl) (Nat.le_of_ble_eq_true rfl) dX12_by_60
      · have c51 := k_eq (a := (u49.1 0).toInt) (b := 0) rfl (by decide) c51
        refine lv_ldcw hx hb hown (hB _ b_966) dX12_by_24 ?_
        exact rt_i FX ((fun k => match k with | 0 => (1000000000 : Int32) | _ => 0), (fun _ => fun _ => 0), (fun _ => fun _ => 0)) rfl trivial (hP.sub [1, 2, 0] rfl) (hD.sub [1, 2, 0] (by decide) rfl) hS (Nat.le_of_ble_eq_true rfl) (Nat.le_of_ble_eq_true rfl) dX12_by_27
set_option maxRecDepth 100000 in
set_option maxHeartbeats 4000000 in
theorem k_X12_bestWord (l : Launch) (g : GG) (h0 : Nat) (a1 : Nat) (a2 : Nat) (a3 : Nat) (a4 : Nat) (a6 : Nat) (a14 : Nat) (a15 : Nat) (a19 : Nat) (a20 : Nat) (a23 : Nat) (a24 : Nat) (a25 : Nat) (a26 : Nat) (a27 : Nat) (a28 : Nat) (mthrown : Int32) (mtaped : Int32) (msize : Int32) (mat : Int32) (mfrom : Int32) (mtoken : Int32) (mvalue : Int32) (mfaultKind : Int32) (mfaultPlace : Int32) (mgoal : Int32) (mgoalDays : Int32) (mgoalHearer : Int32) (mleastOrder : Int32) (mwordsMany : Int32) (mworld : Nat → Int32) (mbest : Nat → Int32) (p1 : Int32) (p2 : Int32) (i_mtaped : 0 ≤ mtaped.toInt ∧ mtaped.toInt ≤ 900) (i_msize : 0 ≤ msize.toInt ∧ msize.toInt ≤ 900) (i_mat : 0 ≤ mat.toInt ∧ mat.toInt ≤ 900) (i_mfrom : 0 ≤ mfrom.toInt ∧ mfrom.toInt ≤ 900) (i_mtoken : 0 ≤ mtoken.toInt ∧ mtoken.toInt ≤ 4) (i_mvalue : 0 ≤ mvalue.toInt ∧ mvalue.toInt ≤ 99999) (i_mgoalHearer : 0 ≤ mgoalHearer.toInt ∧ mgoalHearer.toInt ≤ 3) (i_mwordsMany : 0 ≤ mwordsMany.toInt ∧ mwordsMany.toInt ≤ 10) (i_mworld : wod mworld) (i_p1 : 0 ≤ p1.toInt ∧ p1.toInt ≤ 9) (i_p2 : 1 ≤ p2.toInt ∧ p2.toInt ≤ 255) : Ct l g yX12_bestWord cX12_bestWord 5 (some .int) { frames := 5, cells := 0, slots := 0, locals := 120 } [.ref h0, .int p1, .int p2] [(h0, .inr (12, [.int mthrown, .ref a1, .ref a2, .ref a3, .ref a4, .int mtaped, .ref a6, .int msize, .int mat, .int mfrom, .int mtoken, .int mvalue, .int mfaultKind, .int mfaultPlace, .ref a14, .ref a15, .int mgoal, .int mgoalDays, .int mgoalHearer, .ref a19, .ref a20, .int mleastOrder, .int mwordsMany, .ref a23, .ref a24, .ref a25, .ref a26, .ref a27, .ref a28])), (a1, .inl (g.2 0, 225, .inl mworld)), (a15, .inl (g.2 0, 2816, .inl mbest))] (S := (Nat → Int32) × (Nat → Nat → Int32) × (Nat → Nat → Int64)) (fun u => some (.int (u.1 0))) (fun u => (0 ≤ (u.1 0).toInt ∧ (u.1 0).toInt ≤ 8) ∧ ((u.1 0).toInt = 8 ∨ (0 ≤ (u.1 0).toInt ∧ (u.1 0).toInt < (mworld 6).toInt))) (fun u => [(h0, .inr (12, [.int mthrown, .ref a1, .ref a2, .ref a3, .ref a4, .int mtaped, .ref a6, .int msize, .int mat, .int mfrom, .int mtoken, .int mvalue, .int mfaultKind, .int mfaultPlace, .ref a14, .ref a15, .int mgoal, .int mgoalDays, .int mgoalHearer, .ref a19, .ref a20, .int mleastOrder, .int mwordsMany, .ref a23, .ref a24, .ref a25, .ref a26, .ref a27, .ref a28])), (a1, .inl (g.2 0, 225, .inl mworld)), (a15, .inl (g.2 0, 2816, .inl mbest))]) := by
  refine Ct.of (by decide) (Nat.le_of_ble_eq_true rfl) ?_
  intro p e s m below meth c A ls FX hP hD hS hl
  obtain ⟨FC, hr, hlk, hKn, hA, hnm, hZ⟩ := id FX
  have FC : CallFix p m c cX12_bestWord 5 s _ BIG RX12 := FC
  obtain ⟨hx, hb, hml, hown, hB⟩ := id FC
  have hl : lv_has ls 5 [(0, .ref h0), (1, .int p1), (2, .int p2)] := hl
  have h6 := wk_6 i_mworld.1
  refine lv_bipush (v := 8) hx hb dX12_bestWord_0 (by decide) ?_
  refine lv_istore_n (lv' := [(3, .int 8), (0, .ref h0), (1, .int p1), (2, .int p2)]) hx hb dX12_bestWord_2 rfl hl (by decide) rfl (fun ls hl => ?_)
  refine lv_aload_n hx hb dX12_bestWord_3 rfl (lv_at hl 1 rfl) ?_
  refine g_get (C := RX12) (T := TX12) (N := 29) (ci := 12) (v := .ref a1) FC hKn hP i_X12 0 rfl rfl 1 (by decide) b_801 rfl dX12_bestWord_4 ?_
  refine lv_bipush (v := 6) hx hb dX12_bestWord_7 (by decide) ?_
  refine va_iald hx hb hKn.1 hP 1 0 rfl rfl (by unfold vp_in; decide) dX12_bestWord_9 ?_
  have kc6 : (6 : Int32).toInt = 6 := by decide
  refine lv_topi (fun z1 e_z1 => ?_)
  have t_z1 : 0 ≤ z1.toInt ∧ z1.toInt ≤ 8 := by rw [e_z1]; exact wk_6 i_mworld.1
  have q_z1 : z1.toInt = (mworld 6).toInt := by rw [e_z1]; rfl
  refine lv_iconst (v := 1) hx hb dX12_bestWord_10 (by decide) ?_
  refine lv_isub hx hb dX12_bestWord_11 ?_
  have kc1 : (1 : Int32).toInt = 1 := by decide
  refine lv_topi (fun z2 e_z2 => ?_)
  have t_z2 : z2.toInt = z1.toInt - ((1 : Int32)).toInt := by rw [e_z2]; exact fb_subI (by omega) (by omega)
  refine lv_istore (lv' := [(4, .int z2), (3, .int 8), (0, .ref h0), (1, .int p1), (2, .int p2)]) hx hb dX12_bestWord_12 hl (by decide) rfl (fun ls hl => ?_)
  have lp25 : ∀ (n27 : Nat) (x21 : Int32) (x22 : Int32) (H : Heap) (locs : List Loc) (ls : Array Slot), -1 ≤ x21.toInt ∧ x21.toInt ≤ 7 → 0 ≤ x22.toInt ∧ x22.toInt ≤ 8 → (x22.toInt = 8 ∨ (0 ≤ x22.toInt ∧ x22.toInt < (mworld 6).toInt)) → x21.toInt < (mworld 6).toInt → (x21.toInt - (-1)).toNat < n27 → va_P g.1 vwCl [(h0, .inr (12, [.int mthrown, .ref a1, .ref a2, .ref a3, .ref a4, .int mtaped, .ref a6, .int msize, .int mat, .int mfrom, .int mtoken, .int mvalue, .int mfaultKind, .int mfaultPlace, .ref a14, .ref a15, .int mgoal, .int mgoalDays, .int mgoalHearer, .ref a19, .ref a20, .int mleastOrder, .int mwordsMany, .ref a23, .ref a24, .ref a25, .ref a26, .ref a27, .ref a28])), (a1, .inl (g.2 0, 225, .inl mworld)), (a15, .inl (g.2 0, 2816, .inl mbest))] H → va_D A [(h0, .inr (12, [.int mthrown, .ref a1, .ref a2, .ref a3, .ref a4, .int mtaped, .ref a6, .int msize, .int mat, .int mfrom, .int mtoken, .int mvalue, .int mfaultKind, .int mfaultPlace, .ref a14, .ref a15, .int mgoal, .int mgoalDays, .int mgoalHearer, .ref a19, .ref a20, .int mleastOrder, .int mwordsMany, .ref a23, .ref a24, .ref a25, .ref a26, .ref a27, .ref a28])), (a1, .inl (g.2 0, 225, .inl mworld)), (a15, .inl (g.2 0, 2816, .inl mbest))] → va_S A s.heap H locs → lv_has ls 5 [(4, .int x21), (3, .int x22), (0, .ref h0), (1, .int p1), (2, .int p2)] → W p l e { frames := 5, cells := 0, slots := 0, locals := 120 } s m ([.ref h0, .int p1, .int p2].toArray) below meth c H locs 0 0 (MQ below (QX (S := (Nat → Int32) × (Nat → Nat → Int32) × (Nat → Nat → Int64)) (fun u => some (.int (u.1 0))) (fun u => (0 ≤ (u.1 0).toInt ∧ (u.1 0).toInt ≤ 8) ∧ ((u.1 0).toInt = 8 ∨ (0 ≤ (u.1 0).toInt ∧ (u.1 0).toInt < (mworld 6).toInt))) g (fun u => [(h0, .inr (12, [.int mthrown, .ref a1, .ref a2, .ref a3, .ref a4, .int mtaped, .ref a6, .int msize, .int mat, .int mfrom, .int mtoken, .int mvalue, .int mfaultKind, .int mfaultPlace, .ref a14, .ref a15, .int mgoal, .int mgoalDays, .int mgoalHearer, .ref a19, .ref a20, .int mleastOrder, .int mwordsMany, .ref a23, .ref a24, .ref a25, .ref a26, .ref a27, .ref a28])), (a1, .inl (g.2 0, 225, .inl mworld)), (a15, .inl (g.2 0, 2816, .inl mbest))]) A) ([.ref h0, .int p1, .int p2].toArray) s 0 0 A) (F0 m 14 ls []) := by
    intro n27
    induction n27 with
    | zero =>
      intro x21 x22 H locs ls h_x21 h_x22 hi23 hi24 hn28
      exact absurd hn28 (Nat.not_lt_zero _)
    | succ n27 ih26 =>
      intro x21 x22 H locs ls h_x21 h_x22 hi23 hi24 hn28 hP hD hS hl
      refine lv_iload hx hb dX12_bestWord_14 (lv_at hl 0 rfl) ?_
      refine lv_if_lt (tgt := 50) hx hb dX12_bestWord_16 (by decide) (fun c29 => ?_) (fun c29 => ?_)
      · have c29 := k_lt (a := x21.toInt) (b := 0) rfl (by decide) c29
        refine lv_iload_n hx hb dX12_bestWord_50 rfl (lv_at hl 1 rfl) ?_
        exact rt_i FX ((fun k => match k with | 0 => x22 | _ => 0), (fun _ => fun _ => 0), (fun _ => fun _ => 0)) rfl ⟨(show 0 ≤ x22.toInt ∧ x22.toInt ≤ 8 by omega), (show (x22).toInt = 8 ∨ (0 ≤ (x22).toInt ∧ (x22).toInt < (mworld 6).toInt) by omega)⟩ (hP.sub [0, 1, 2] rfl) (hD.sub [0, 1, 2] (by decide) rfl) hS (Nat.le_of_ble_eq_true rfl) (Nat.le_of_ble_eq_true rfl) dX12_bestWord_51
      · have c29 := k_nlt (a := x21.toInt) (b := 0) rfl (by decide) c29
        refine lv_aload_n hx hb dX12_bestWord_19 rfl (lv_at hl 2 rfl) ?_
        refine lv_iload_n hx hb dX12_bestWord_20 rfl (lv_at hl 3 rfl) ?_
        refine lv_iload_n hx hb dX12_bestWord_21 rfl (lv_at hl 4 rfl) ?_
        refine lv_iload hx hb dX12_bestWord_22 (lv_at hl 0 rfl) ?_
        refine call_V (As := [.int p1, .int p2, .int x21]) (rest := []) (wr := []) FC hKn hZ (k_X12_by l g h0 a1 a2 a3 a4 a6 a14 a15 a19 a20 a23 a24 a25 a26 a27 a28 mthrown mtaped msize mat mfrom mtoken mvalue mfaultKind mfaultPlace mgoal mgoalDays mgoalHearer mleastOrder mwordsMany mworld mbest p1 p2 x21 (by omega) (by omega) (by omega) (by omega) (by omega) (by omega) (by omega) (by omega) i_mworld (by omega) (by omega) (by omega) (by omega)) m_yX12_by b_969 (ci := 12) rfl rfl rfl hP hD hS hA [0, 1, 2] [] rfl (by decide) rfl (by decide) (by decide) rfl hl.1 rfl (Nat.le_of_ble_eq_true rfl) dX12_bestWord_24 ⟨(Nat.le_of_ble_eq_true rfl), (Nat.le_of_ble_eq_true rfl)⟩ ⟨(Nat.le_of_ble_eq_true rfl), (Nat.le_of_ble_eq_true rfl)⟩ (fun u30 H locs q31 hP hD hS => ?_)
        have hP : va_P g.1 vwCl [(h0, .inr (12, [.int mthrown, .ref a1, .ref a2, .ref a3, .ref a4, .int mtaped, .ref a6, .int msize, .int mat, .int mfrom, .int mtoken, .int mvalue, .int mfaultKind, .int mfaultPlace, .ref a14, .ref a15, .int mgoal, .int mgoalDays, .int mgoalHearer, .ref a19, .ref a20, .int mleastOrder, .int mwordsMany, .ref a23, .ref a24, .ref a25, .ref a26, .ref a27, .ref a28])), (a1, .inl (g.2 0, 225, .inl mworld)), (a15, .inl (g.2 0, 2816, .inl mbest))] H := hP
        have hD : va_D A [(h0, .inr (12, [.int mthrown, .ref a1, .ref a2, .ref a3, .ref a4, .int mtaped, .ref a6, .int msize, .int mat, .int mfrom, .int mtoken, .int mvalue, .int mfaultKind, .int mfaultPlace, .ref a14, .ref a15, .int mgoal, .int mgoalDays, .int mgoalHearer, .ref a19, .ref a20, .int mleastOrder, .int mwordsMany, .ref a23, .ref a24, .ref a25, .ref a26, .ref a27, .ref a28])), (a1, .inl (g.2 0, 225, .inl mworld)), (a15, .inl (g.2 0, 2816, .inl mbest))] := hD
        refine W.eq (g2 := F0 m 27 ls [.int (u30.1 0)]) rfl ?_
        refine lv_aload_n hx hb dX12_bestWord_27 rfl (lv_at hl 2 rfl) ?_
        refine lv_iload_n hx hb dX12_bestWord_28 rfl (lv_at hl 3 rfl) ?_
        refine lv_iload_n hx hb dX12_bestWord_29 rfl (lv_at hl 4 rfl) ?_
        refine lv_iload_n hx hb dX12_bestWord_30 rfl (lv_at hl 1 rfl) ?_
        refine call_V (As := [.int p1, .int p2, .int x22]) (rest := [.int (u30.1 0)]) (wr := []) FC hKn hZ (k_X12_by l g h0 a1 a2 a3 a4 a6 a14 a15 a19 a20 a23 a24 a25 a26 a27 a28 mthrown mtaped msize mat mfrom mtoken mvalue mfaultKind mfaultPlace mgoal mgoalDays mgoalHearer mleastOrder mwordsMany mworld mbest p1 p2 x22 (by omega) (by omega) (by omega) (by omega) (by omega) (by omega) (by omega) (by omega) i_mworld (by omega) (by omega) (by omega) (by omega)) m_yX12_by b_969 (ci := 12) rfl rfl rfl hP hD hS hA [0, 1, 2] [] rfl (by decide) rfl (by decide) (by decide) rfl hl.1 rfl (Nat.le_of_ble_eq_true rfl) dX12_bestWord_31 ⟨(Nat.le_of_ble_eq_true rfl), (Nat.le_of_ble_eq_true rfl)⟩ ⟨(Nat.le_of_ble_eq_true rfl), (Nat.le_of_ble_eq_true rfl)⟩ (fun u32 H locs q33 hP hD hS => ?_)
        have hP : va_P g.1 vwCl [(h0, .inr (12, [.int mthrown, .ref a1, .ref a2, .ref a3, .ref a4, .int mtaped, .ref a6, .int msize, .int mat, .int mfrom, .int mtoken, .int mvalue, .int mfaultKind, .int mfaultPlace, .ref a14, .ref a15, .int mgoal, .int mgoalDays, .int mgoalHearer, .ref a19, .ref a20, .int mleastOrder, .int mwordsMany, .ref a23, .ref a24, .ref a25, .ref a26, .ref a27, .ref a28])), (a1, .inl (g.2 0, 225, .inl mworld)), (a15, .inl (g.2 0, 2816, .inl mbest))] H := hP
        have hD : va_D A [(h0, .inr (12, [.int mthrown, .ref a1, .ref a2, .ref a3, .ref a4, .int mtaped, .ref a6, .int msize, .int mat, .int mfrom, .int mtoken, .int mvalue, .int mfaultKind, .int mfaultPlace, .ref a14, .ref a15, .int mgoal, .int mgoalDays, .int mgoalHearer, .ref a19, .ref a20, .int mleastOrder, .int mwordsMany, .ref a23, .ref a24, .ref a25, .ref a26, .ref a27, .ref a28])), (a1, .inl (g.2 0, 225, .inl mworld)), (a15, .inl (g.2 0, 2816, .inl mbest))] := hD
        refine W.eq (g2 := F0 m 34 ls [.int (u32.1 0), .int (u30.1 0)]) rfl ?_
        refine lv_icmp_gt (tgt := 42) hx hb dX12_bestWord_34 (by decide) (fun c34 => ?_) (fun c34 => ?_)
        · have c34 := k_lt (a := (u32.1 0).toInt) (b := (u30.1 0).toInt) rfl rfl c34
          refine lv_iload_n hx hb dX12_bestWord_42 rfl (lv_at hl 1 rfl) ?_
          refine lv_istore_n (lv' := [(3, .int x22), (4, .int x21), (0, .ref h0), (1, .int p1), (2, .int p2)]) hx hb dX12_bestWord_43 rfl hl (by decide) rfl (fun ls hl => ?_)
          obtain ⟨z35, e_z35⟩ : ∃ y : Int32, y = x21 + (-1) := ⟨_, rfl⟩
          have t_z35 : z35.toInt = x21.toInt + (-1) := by rw [e_z35]; exact addk (by decide) (by omega) (by omega)
          refine lv_iinc (v := z35) (lv' := [(4, .int z35), (3, .int x22), (0, .ref h0), (1, .int p1), (2, .int p2)]) hx hb dX12_bestWord_44 hl (k := 1) rfl (by rw [e_z35]; rfl) (by decide) rfl (fun ls hl => ?_)
          refine lv_goto (tgt := 14) hx hb dX12_bestWord_47 (by decide) ?_
          exact ih26 z35 x22 _ _ ls (by omega) (by omega) (by omega) (by omega) (by omega) hP hD hS (lv_sub hl [0, 1, 2, 3, 4] rfl)
        · have c34 := k_nlt (a := (u32.1 0).toInt) (b := (u30.1 0).toInt) rfl rfl c34
          refine lv_iload hx hb dX12_bestWord_37 (lv_at hl 0 rfl) ?_
          refine lv_goto (tgt := 43) hx hb dX12_bestWord_39 (by decide) ?_
          refine lv_istore_n (lv' := [(3, .int x21), (4, .int x21), (0, .ref h0), (1, .int p1), (2, .int p2)]) hx hb dX12_bestWord_43 rfl hl (by decide) rfl (fun ls hl => ?_)
          obtain ⟨z36, e_z36⟩ : ∃ y : Int32, y = x21 + (-1) := ⟨_, rfl⟩
          have t_z36 : z36.toInt = x21.toInt + (-1) := by rw [e_z36]; exact addk (by decide) (by omega) (by omega)
          refine lv_iinc (v := z36) (lv' := [(4, .int z36), (3, .int x21), (0, .ref h0), (1, .int p1), (2, .int p2)]) hx hb dX12_bestWord_44 hl (k := 1) rfl (by rw [e_z36]; rfl) (by decide) rfl (fun ls hl => ?_)
          refine lv_goto (tgt := 14) hx hb dX12_bestWord_47 (by decide) ?_
          exact ih26 z36 x21 _ _ ls (by omega) (by omega) (by omega) (by omega) (by omega) hP hD hS (lv_sub hl [0, 1, 2, 3, 4] rfl)
  have kc8 : (8 : Int32).toInt = 8 := by decide
  exact lp25 _ z2 (8 : Int32) _ _ ls (by omega) (by decide) (by omega) (by omega) (Nat.lt_succ_self _) hP hD hS (lv_sub hl [0, 1, 2, 3, 4] rfl)
set_option maxRecDepth 100000 in
set_option maxHeartbeats 4000000 in
theorem k_X12_wordWithin (l : Launch) (g : GG) (h0 : Nat) (a1 : Nat) (a2 : Nat) (a3 : Nat) (a4 : Nat) (a6 : Nat) (a14 : Nat) (a15 : Nat) (a19 : Nat) (a20 : Nat) (a23 : Nat) (a24 : Nat) (a25 : Nat) (a26 : Nat) (a27 : Nat) (a28 : Nat) (mthrown : Int32) (mtaped : Int32) (msize : Int32) (mat : Int32) (mfrom : Int32) (mtoken : Int32) (mvalue : Int32) (mfaultKind : Int32) (mfaultPlace : Int32) (mgoal : Int32) (mgoalDays : Int32) (mgoalHearer : Int32) (mleastOrder : Int32) (mwordsMany : Int32) (mworld : Nat → Int32) (mbest : Nat → Int32) (p1 : Int32) (p2 : Int32) (p3 : Int32) (i_mtaped : 0 ≤ mtaped.toInt ∧ mtaped.toInt ≤ 900) (i_msize : 0 ≤ msize.toInt ∧ msize.toInt ≤ 900) (i_mat : 0 ≤ mat.toInt ∧ mat.toInt ≤ 900) (i_mfrom : 0 ≤ mfrom.toInt ∧ mfrom.toInt ≤ 900) (i_mtoken : 0 ≤ mtoken.toInt ∧ mtoken.toInt ≤ 4) (i_mvalue : 0 ≤ mvalue.toInt ∧ mvalue.toInt ≤ 99999) (i_mgoalHearer : 0 ≤ mgoalHearer.toInt ∧ mgoalHearer.toInt ≤ 3) (i_mwordsMany : 0 ≤ mwordsMany.toInt ∧ mwordsMany.toInt ≤ 10) (i_mworld : wod mworld) (i_p1 : 0 ≤ p1.toInt ∧ p1.toInt ≤ 9) (i_p2 : 1 ≤ p2.toInt ∧ p2.toInt ≤ 255) : Ct l g yX12_wordWithin cX12_wordWithin 5 (some .int) { frames := 5, cells := 0, slots := 0, locals := 120 } [.ref h0, .int p1, .int p2, .int p3] [(h0, .inr (12, [.int mthrown, .ref a1, .ref a2, .ref a3, .ref a4, .int mtaped, .ref a6, .int msize, .int mat, .int mfrom, .int mtoken, .int mvalue, .int mfaultKind, .int mfaultPlace, .ref a14, .ref a15, .int mgoal, .int mgoalDays, .int mgoalHearer, .ref a19, .ref a20, .int mleastOrder, .int mwordsMany, .ref a23, .ref a24, .ref a25, .ref a26, .ref a27, .ref a28])), (a1, .inl (g.2 0, 225, .inl mworld)), (a15, .inl (g.2 0, 2816, .inl mbest))] (S := (Nat → Int32) × (Nat → Nat → Int32) × (Nat → Nat → Int64)) (fun u => some (.int (u.1 0))) (fun u => (0 ≤ (u.1 0).toInt ∧ (u.1 0).toInt ≤ 8) ∧ ((u.1 0).toInt = 8 ∨ (0 ≤ (u.1 0).toInt ∧ (u.1 0).toInt < (mworld 6).toInt))) (fun u => [(h0, .inr (12, [.int mthrown, .ref a1, .ref a2, .ref a3, .ref a4, .int mtaped, .ref a6, .int msize, .int mat, .int mfrom, .int mtoken, .int mvalue, .int mfaultKind, .int mfaultPlace, .ref a14, .ref a15, .int mgoal, .int mgoalDays, .int mgoalHearer, .ref a19, .ref a20, .int mleastOrder, .int mwordsMany, .ref a23, .ref a24, .ref a25, .ref a26, .ref a27, .ref a28])), (a1, .inl (g.2 0, 225, .inl mworld)), (a15, .inl (g.2 0, 2816, .inl mbest))]) := by
  refine Ct.of (by decide) (Nat.le_of_ble_eq_true rfl) ?_
  intro p e s m below meth c A ls FX hP hD hS hl
  obtain ⟨FC, hr, hlk, hKn, hA, hnm, hZ⟩ := id FX
  have FC : CallFix p m c cX12_wordWithin 5 s _ BIG RX12 := FC
  obtain ⟨hx, hb, hml, hown, hB⟩ := id FC
  have hl : lv_has ls 5 [(0, .ref h0), (1, .int p1), (2, .int p2), (3, .int p3)] := hl
  have h6 := wk_6 i_mworld.1
  refine lv_iconst (v := 0) hx hb dX12_wordWithin_0 (by decide) ?_
  refine lv_istore (lv' := [(4, .int 0), (0, .ref h0), (1, .int p1), (2, .int p2), (3, .int p3)]) hx hb dX12_wordWithin_1 hl (by decide) rfl (fun ls hl => ?_)
  have lp56 : ∀ (n58 : Nat) (x55 : Int32) (H : Heap) (locs : List Loc) (ls : Array Slot), 0 ≤ x55.toInt ∧ x55.toInt ≤ 8 → (8 - x55.toInt).toNat < n58 → va_P g.1 vwCl [(h0, .inr (12, [.int mthrown, .ref a1, .ref a2, .ref a3, .ref a4, .int mtaped, .ref a6, .int msize, .int mat, .int mfrom, .int mtoken, .int mvalue, .int mfaultKind, .int mfaultPlace, .ref a14, .ref a15, .int mgoal, .int mgoalDays, .int mgoalHearer, .ref a19, .ref a20, .int mleastOrder, .int mwordsMany, .ref a23, .ref a24, .ref a25, .ref a26, .ref a27, .ref a28])), (a1, .inl (g.2 0, 225, .inl mworld)), (a15, .inl (g.2 0, 2816, .inl mbest))] H → va_D A [(h0, .inr (12, [.int mthrown, .ref a1, .ref a2, .ref a3, .ref a4, .int mtaped, .ref a6, .int msize, .int mat, .int mfrom, .int mtoken, .int mvalue, .int mfaultKind, .int mfaultPlace, .ref a14, .ref a15, .int mgoal, .int mgoalDays, .int mgoalHearer, .ref a19, .ref a20, .int mleastOrder, .int mwordsMany, .ref a23, .ref a24, .ref a25, .ref a26, .ref a27, .ref a28])), (a1, .inl (g.2 0, 225, .inl mworld)), (a15, .inl (g.2 0, 2816, .inl mbest))] → va_S A s.heap H locs → lv_has ls 5 [(4, .int x55), (0, .ref h0), (1, .int p1), (2, .int p2), (3, .int p3)] → W p l e { frames := 5, cells := 0, slots := 0, locals := 120 } s m ([.ref h0, .int p1, .int p2, .int p3].toArray) below meth c H locs 0 0 (MQ below (QX (S := (Nat → Int32) × (Nat → Nat → Int32) × (Nat → Nat → Int64)) (fun u => some (.int (u.1 0))) (fun u => (0 ≤ (u.1 0).toInt ∧ (u.1 0).toInt ≤ 8) ∧ ((u.1 0).toInt = 8 ∨ (0 ≤ (u.1 0).toInt ∧ (u.1 0).toInt < (mworld 6).toInt))) g (fun u => [(h0, .inr (12, [.int mthrown, .ref a1, .ref a2, .ref a3, .ref a4, .int mtaped, .ref a6, .int msize, .int mat, .int mfrom, .int mtoken, .int mvalue, .int mfaultKind, .int mfaultPlace, .ref a14, .ref a15, .int mgoal, .int mgoalDays, .int mgoalHearer, .ref a19, .ref a20, .int mleastOrder, .int mwordsMany, .ref a23, .ref a24, .ref a25, .ref a26, .ref a27, .ref a28])), (a1, .inl (g.2 0, 225, .inl mworld)), (a15, .inl (g.2 0, 2816, .inl mbest))]) A) ([.ref h0, .int p1, .int p2, .int p3].toArray) s 0 0 A) (F0 m 3 ls []) := by
    intro n58
    induction n58 with
    | zero =>
      intro x55 H locs ls h_x55 hn59
      exact absurd hn59 (Nat.not_lt_zero _)
    | succ n58 ih57 =>
      intro x55 H locs ls h_x55 hn59 hP hD hS hl
      refine lv_iload hx hb dX12_wordWithin_3 (lv_at hl 0 rfl) ?_
      refine lv_aload_n hx hb dX12_wordWithin_5 rfl (lv_at hl 1 rfl) ?_
      refine g_get (C := RX12) (T := TX12) (N := 29) (ci := 12) (v := .ref a1) FC hKn hP i_X12 0 rfl rfl 1 (by decide) b_801 rfl dX12_wordWithin_6 ?_
      refine lv_bipush (v := 6) hx hb dX12_wordWithin_9 (by decide) ?_
      refine va_iald hx hb hKn.1 hP 1 0 rfl rfl (by unfold vp_in; decide) dX12_wordWithin_11 ?_
      have kc6 : (6 : Int32).toInt = 6 := by decide
      refine lv_topi (fun z60 e_z60 => ?_)
      have t_z60 : 0 ≤ z60.toInt ∧ z60.toInt ≤ 8 := by rw [e_z60]; exact wk_6 i_mworld.1
      have q_z60 : z60.toInt = (mworld 6).toInt := by rw [e_z60]; rfl
      refine lv_icmp_ge (tgt := 36) hx hb dX12_wordWithin_12 (by decide) (fun c61 => ?_) (fun c61 => ?_)
      · have c61 := k_le (a := z60.toInt) (b := x55.toInt) rfl rfl c61
        refine lv_bipush (v := 8) hx hb dX12_wordWithin_36 (by decide) ?_
        have kc8 : (8 : Int32).toInt = 8 := by decide
        exact rt_i FX ((fun k => match k with | 0 => (8 : Int32) | _ => 0), (fun _ => fun _ => 0), (fun _ => fun _ => 0)) rfl ⟨(show 0 ≤ ((8 : Int32)).toInt ∧ ((8 : Int32)).toInt ≤ 8 by decide), (show ((8 : Int32)).toInt = 8 ∨ (0 ≤ ((8 : Int32)).toInt ∧ ((8 : Int32)).toInt < (mworld 6).toInt) by omega)⟩ (hP.sub [0, 1, 2] rfl) (hD.sub [0, 1, 2] (by decide) rfl) hS (Nat.le_of_ble_eq_true rfl) (Nat.le_of_ble_eq_true rfl) dX12_wordWithin_38
      · have c61 := k_nle (a := z60.toInt) (b := x55.toInt) rfl rfl c61
        refine lv_aload_n hx hb dX12_wordWithin_15 rfl (lv_at hl 1 rfl) ?_
        refine lv_iload_n hx hb dX12_wordWithin_16 rfl (lv_at hl 2 rfl) ?_
        refine lv_iload_n hx hb dX12_wordWithin_17 rfl (lv_at hl 3 rfl) ?_
        refine lv_iload hx hb dX12_wordWithin_18 (lv_at hl 0 rfl) ?_
        refine call_V (As := [.int p1, .int p2, .int x55]) (rest := []) (wr := []) FC hKn hZ (k_X12_by l g h0 a1 a2 a3 a4 a6 a14 a15 a19 a20 a23 a24 a25 a26 a27 a28 mthrown mtaped msize mat mfrom mtoken mvalue mfaultKind mfaultPlace mgoal mgoalDays mgoalHearer mleastOrder mwordsMany mworld mbest p1 p2 x55 (by omega) (by omega) (by omega) (by omega) (by omega) (by omega) (by omega) (by omega) i_mworld (by omega) (by omega) (by omega) (by omega)) m_yX12_by b_969 (ci := 12) rfl rfl rfl hP hD hS hA [0, 1, 2] [] rfl (by decide) rfl (by decide) (by decide) rfl hl.1 rfl (Nat.le_of_ble_eq_true rfl) dX12_wordWithin_20 ⟨(Nat.le_of_ble_eq_true rfl), (Nat.le_of_ble_eq_true rfl)⟩ ⟨(Nat.le_of_ble_eq_true rfl), (Nat.le_of_ble_eq_true rfl)⟩ (fun u62 H locs q63 hP hD hS => ?_)
        have hP : va_P g.1 vwCl [(h0, .inr (12, [.int mthrown, .ref a1, .ref a2, .ref a3, .ref a4, .int mtaped, .ref a6, .int msize, .int mat, .int mfrom, .int mtoken, .int mvalue, .int mfaultKind, .int mfaultPlace, .ref a14, .ref a15, .int mgoal, .int mgoalDays, .int mgoalHearer, .ref a19, .ref a20, .int mleastOrder, .int mwordsMany, .ref a23, .ref a24, .ref a25, .ref a26, .ref a27, .ref a28])), (a1, .inl (g.2 0, 225, .inl mworld)), (a15, .inl (g.2 0, 2816, .inl mbest))] H := hP
        have hD : va_D A [(h0, .inr (12, [.int mthrown, .ref a1, .ref a2, .ref a3, .ref a4, .int mtaped, .ref a6, .int msize, .int mat, .int mfrom, .int mtoken, .int mvalue, .int mfaultKind, .int mfaultPlace, .ref a14, .ref a15, .int mgoal, .int mgoalDays, .int mgoalHearer, .ref a19, .ref a20, .int mleastOrder, .int mwordsMany, .ref a23, .ref a24, .ref a25, .ref a26, .ref a27, .ref a28])), (a1, .inl (g.2 0, 225, .inl mworld)), (a15, .inl (g.2 0, 2816, .inl mbest))] := hD
        refine W.eq (g2 := F0 m 23 ls [.int (u62.1 0)]) rfl ?_
        refine lv_iload_n hx hb dX12_wordWithin_23 rfl (lv_at hl 4 rfl) ?_
        refine lv_icmp_gt (tgt := 30) hx hb dX12_wordWithin_24 (by decide) (fun c64 => ?_) (fun c64 => ?_)
        · have c64 := k_lt (a := p3.toInt) (b := (u62.1 0).toInt) rfl rfl c64
          obtain ⟨z65, e_z65⟩ : ∃ y : Int32, y = x55 + 1 := ⟨_, rfl⟩
          have t_z65 : z65.toInt = x55.toInt + 1 := by rw [e_z65]; exact addk (by decide) (by omega) (by omega)
          refine lv_iinc (v := z65) (lv' := [(4, .int z65), (0, .ref h0), (1, .int p1), (2, .int p2), (3, .int p3)]) hx hb dX12_wordWithin_30 hl (k := 0) rfl (by rw [e_z65]; rfl) (by decide) rfl (fun ls hl => ?_)
          refine lv_goto (tgt := 3) hx hb dX12_wordWithin_33 (by decide) ?_
          exact ih57 z65 _ _ ls (by omega) (by omega) hP hD hS (lv_sub hl [0, 1, 2, 3, 4] rfl)
        · have c64 := k_nlt (a := p3.toInt) (b := (u62.1 0).toInt) rfl rfl c64
          refine lv_iload hx hb dX12_wordWithin_27 (lv_at hl 0 rfl) ?_
          exact rt_i FX ((fun k => match k with | 0 => x55 | _ => 0), (fun _ => fun _ => 0), (fun _ => fun _ => 0)) rfl ⟨(show 0 ≤ x55.toInt ∧ x55.toInt ≤ 8 by omega), (show (x55).toInt = 8 ∨ (0 ≤ (x55).toInt ∧ (x55).toInt < (mworld 6).toInt) by omega)⟩ (hP.sub [0, 1, 2] rfl) (hD.sub [0, 1, 2] (by decide) rfl) hS (Nat.le_of_ble_eq_true rfl) (Nat.le_of_ble_eq_true rfl) dX12_wordWithin_29
  have kc0 : (0 : Int32).toInt = 0 := by decide
  exact lp56 _ (0 : Int32) _ _ ls (by decide) (Nat.lt_succ_self _) hP hD hS (lv_sub hl [0, 1, 2, 3, 4] rfl)
set_option maxRecDepth 100000 in
set_option maxHeartbeats 4000000 in
theorem k_X12_fill (l : Launch) (g : GG) (h0 : Nat) (a1 : Nat) (a2 : Nat) (a3 : Nat) (a4 : Nat) (a6 : Nat) (a14 : Nat) (a15 : Nat) (a19 : Nat) (a20 : Nat) (a23 : Nat) (a24 : Nat) (a25 : Nat) (a26 : Nat) (a27 : Nat) (a28 : Nat) (mthrown : Int32) (mtaped : Int32) (msize : Int32) (mat : Int32) (mfrom : Int32) (mtoken : Int32) (mvalue : Int32) (mfaultKind : Int32) (mfaultPlace : Int32) (mgoal : Int32) (mgoalDays : Int32) (mgoalHearer : Int32) (mleastOrder : Int32) (mwordsMany : Int32) (mworld : Nat → Int32) (mbest : Nat → Int32) (p1 : Int32) (p2 : Int32) (p3 : Int32) (i_mtaped : 0 ≤ mtaped.toInt ∧ mtaped.toInt ≤ 900) (i_msize : 0 ≤ msize.toInt ∧ msize.toInt ≤ 900) (i_mat : 0 ≤ mat.toInt ∧ mat.toInt ≤ 900) (i_mfrom : 0 ≤ mfrom.toInt ∧ mfrom.toInt ≤ 900) (i_mtoken : 0 ≤ mtoken.toInt ∧ mtoken.toInt ≤ 4) (i_mvalue : 0 ≤ mvalue.toInt ∧ mvalue.toInt ≤ 99999) (i_mgoalHearer : 0 ≤ mgoalHearer.toInt ∧ mgoalHearer.toInt ≤ 3) (i_mwordsMany : 0 ≤ mwordsMany.toInt ∧ mwordsMany.toInt ≤ 10) (i_mworld : wod mworld) (i_p2 : 0 ≤ p2.toInt ∧ p2.toInt ≤ 3) (i_p3 : 0 ≤ p3.toInt ∧ p3.toInt ≤ 10) (hd0 : 1 ≤ (mworld 0).toInt ∧ 1 ≤ (mworld 2).toInt) : Ct l g yX12_fill cX12_fill 7 none { frames := 6, cells := 0, slots := 0, locals := 144 } [.ref h0, .int p1, .int p2, .int p3] [(h0, .inr (12, [.int mthrown, .ref a1, .ref a2, .ref a3, .ref a4, .int mtaped, .ref a6, .int msize, .int mat, .int mfrom, .int mtoken, .int mvalue, .int mfaultKind, .int mfaultPlace, .ref a14, .ref a15, .int mgoal, .int mgoalDays, .int mgoalHearer, .ref a19, .ref a20, .int mleastOrder, .int mwordsMany, .ref a23, .ref a24, .ref a25, .ref a26, .ref a27, .ref a28])), (a1, .inl (g.2 0, 225, .inl mworld)), (a15, .inl (g.2 0, 2816, .inl mbest))] (S := (Nat → Int32) × (Nat → Nat → Int32) × (Nat → Nat → Int64)) (fun _ => none) (fun u => (0 ≤ (u.1 3).toInt ∧ (u.1 3).toInt ≤ 3)) (fun u => [(h0, .inr (12, [.int mthrown, .ref a1, .ref a2, .ref a3, .ref a4, .int mtaped, .ref a6, .int msize, .int mat, .int mfrom, .int mtoken, .int mvalue, .int mfaultKind, .int mfaultPlace, .ref a14, .ref a15, .int (u.1 1), .int (u.1 2), .int (u.1 3), .ref a19, .ref a20, .int mleastOrder, .int mwordsMany, .ref a23, .ref a24, .ref a25, .ref a26, .ref a27, .ref a28])), (a1, .inl (g.2 0, 225, .inl mworld)), (a15, .inl (g.2 0, 2816, .inl (u.2.1 0)))]) := by
  refine Ct.of (by decide) (Nat.le_of_ble_eq_true rfl) ?_
  intro p e s m below meth c A ls FX hP hD hS hl
  obtain ⟨FC, hr, hlk, hKn, hA, hnm, hZ⟩ := id FX
  have FC : CallFix p m c cX12_fill 7 s _ BIG RX12 := FC
  obtain ⟨hx, hb, hml, hown, hB⟩ := id FC
  have hl : lv_has ls 7 [(0, .ref h0), (1, .int p1), (2, .int p2), (3, .int p3)] := hl
  refine lv_aload_n hx hb dX12_fill_0 rfl (lv_at hl 0 rfl) ?_
  refine lv_iload_n hx hb dX12_fill_1 rfl (lv_at hl 1 rfl) ?_
  refine g_put (C := RX12) (T := TX12) (N := 29) (ci := 12) (v := .int p1) FC hKn hP hD hS i_X12 tyX12 tyX12_ok nmX12 0 rfl rfl 16 (by decide) b_964 rfl rfl rfl (Nat.le_of_ble_eq_true rfl) dX12_fill_2 (fun H locs hP hD hS => ?_)
  have hP : va_P g.1 vwCl [(h0, .inr (12, [.int mthrown, .ref a1, .ref a2, .ref a3, .ref a4, .int mtaped, .ref a6, .int msize, .int mat, .int mfrom, .int mtoken, .int mvalue, .int mfaultKind, .int mfaultPlace, .ref a14, .ref a15, .int p1, .int mgoalDays, .int mgoalHearer, .ref a19, .ref a20, .int mleastOrder, .int mwordsMany, .ref a23, .ref a24, .ref a25, .ref a26, .ref a27, .ref a28])), (a1, .inl (g.2 0, 225, .inl mworld)), (a15, .inl (g.2 0, 2816, .inl mbest))] H := hP
  have hD : va_D A [(h0, .inr (12, [.int mthrown, .ref a1, .ref a2, .ref a3, .ref a4, .int mtaped, .ref a6, .int msize, .int mat, .int mfrom, .int mtoken, .int mvalue, .int mfaultKind, .int mfaultPlace, .ref a14, .ref a15, .int p1, .int mgoalDays, .int mgoalHearer, .ref a19, .ref a20, .int mleastOrder, .int mwordsMany, .ref a23, .ref a24, .ref a25, .ref a26, .ref a27, .ref a28])), (a1, .inl (g.2 0, 225, .inl mworld)), (a15, .inl (g.2 0, 2816, .inl mbest))] := hD
  refine lv_aload_n hx hb dX12_fill_5 rfl (lv_at hl 0 rfl) ?_
  refine lv_iload_n hx hb dX12_fill_6 rfl (lv_at hl 3 rfl) ?_
  refine g_put (C := RX12) (T := TX12) (N := 29) (ci := 12) (v := .int p3) FC hKn hP hD hS i_X12 tyX12 tyX12_ok nmX12 0 rfl rfl 17 (by decide) b_968 rfl rfl rfl (Nat.le_of_ble_eq_true rfl) dX12_fill_7 (fun H locs hP hD hS => ?_)
  have hP : va_P g.1 vwCl [(h0, .inr (12, [.int mthrown, .ref a1, .ref a2, .ref a3, .ref a4, .int mtaped, .ref a6, .int msize, .int mat, .int mfrom, .int mtoken, .int mvalue, .int mfaultKind, .int mfaultPlace, .ref a14, .ref a15, .int p1, .int p3, .int mgoalHearer, .ref a19, .ref a20, .int mleastOrder, .int mwordsMany, .ref a23, .ref a24, .ref a25, .ref a26, .ref a27, .ref a28])), (a1, .inl (g.2 0, 225, .inl mworld)), (a15, .inl (g.2 0, 2816, .inl mbest))] H := hP
  have hD : va_D A [(h0, .inr (12, [.int mthrown, .ref a1, .ref a2, .ref a3, .ref a4, .int mtaped, .ref a6, .int msize, .int mat, .int mfrom, .int mtoken, .int mvalue, .int mfaultKind, .int mfaultPlace, .ref a14, .ref a15, .int p1, .int p3, .int mgoalHearer, .ref a19, .ref a20, .int mleastOrder, .int mwordsMany, .ref a23, .ref a24, .ref a25, .ref a26, .ref a27, .ref a28])), (a1, .inl (g.2 0, 225, .inl mworld)), (a15, .inl (g.2 0, 2816, .inl mbest))] := hD
  refine lv_aload_n hx hb dX12_fill_10 rfl (lv_at hl 0 rfl) ?_
  refine lv_iload_n hx hb dX12_fill_11 rfl (lv_at hl 2 rfl) ?_
  refine g_put (C := RX12) (T := TX12) (N := 29) (ci := 12) (v := .int p2) FC hKn hP hD hS i_X12 tyX12 tyX12_ok nmX12 0 rfl rfl 18 (by decide) b_967 rfl rfl rfl (Nat.le_of_ble_eq_true rfl) dX12_fill_12 (fun H locs hP hD hS => ?_)
  have hP : va_P g.1 vwCl [(h0, .inr (12, [.int mthrown, .ref a1, .ref a2, .ref a3, .ref a4, .int mtaped, .ref a6, .int msize, .int mat, .int mfrom, .int mtoken, .int mvalue, .int mfaultKind, .int mfaultPlace, .ref a14, .ref a15, .int p1, .int p3, .int p2, .ref a19, .ref a20, .int mleastOrder, .int mwordsMany, .ref a23, .ref a24, .ref a25, .ref a26, .ref a27, .ref a28])), (a1, .inl (g.2 0, 225, .inl mworld)), (a15, .inl (g.2 0, 2816, .inl mbest))] H := hP
  have hD : va_D A [(h0, .inr (12, [.int mthrown, .ref a1, .ref a2, .ref a3, .ref a4, .int mtaped, .ref a6, .int msize, .int mat, .int mfrom, .int mtoken, .int mvalue, .int mfaultKind, .int mfaultPlace, .ref a14, .ref a15, .int p1, .int p3, .int p2, .ref a19, .ref a20, .int mleastOrder, .int mwordsMany, .ref a23, .ref a24, .ref a25, .ref a26, .ref a27, .ref a28])), (a1, .inl (g.2 0, 225, .inl mworld)), (a15, .inl (g.2 0, 2816, .inl mbest))] := hD
  refine lv_iconst (v := 1) hx hb dX12_fill_15 (by decide) ?_
  refine lv_istore (lv' := [(4, .int 1), (0, .ref h0), (1, .int p1), (2, .int p2), (3, .int p3)]) hx hb dX12_fill_16 hl (by decide) rfl (fun ls hl => ?_)
  have lp5468 : ∀ (n5470 : Nat) (x5466 : Int32) (x5467 : Nat → Int32) (H : Heap) (locs : List Loc) (ls : Array Slot), 1 ≤ x5466.toInt ∧ x5466.toInt ≤ 256 → (256 - x5466.toInt).toNat < n5470 → va_P g.1 vwCl [(h0, .inr (12, [.int mthrown, .ref a1, .ref a2, .ref a3, .ref a4, .int mtaped, .ref a6, .int msize, .int mat, .int mfrom, .int mtoken, .int mvalue, .int mfaultKind, .int mfaultPlace, .ref a14, .ref a15, .int p1, .int p3, .int p2, .ref a19, .ref a20, .int mleastOrder, .int mwordsMany, .ref a23, .ref a24, .ref a25, .ref a26, .ref a27, .ref a28])), (a1, .inl (g.2 0, 225, .inl mworld)), (a15, .inl (g.2 0, 2816, .inl x5467))] H → va_D A [(h0, .inr (12, [.int mthrown, .ref a1, .ref a2, .ref a3, .ref a4, .int mtaped, .ref a6, .int msize, .int mat, .int mfrom, .int mtoken, .int mvalue, .int mfaultKind, .int mfaultPlace, .ref a14, .ref a15, .int p1, .int p3, .int p2, .ref a19, .ref a20, .int mleastOrder, .int mwordsMany, .ref a23, .ref a24, .ref a25, .ref a26, .ref a27, .ref a28])), (a1, .inl (g.2 0, 225, .inl mworld)), (a15, .inl (g.2 0, 2816, .inl x5467))] → va_S A s.heap H locs → lv_has ls 7 [(4, .int x5466), (0, .ref h0), (1, .int p1), (2, .int p2), (3, .int p3)] → W p l e { frames := 6, cells := 0, slots := 0, locals := 144 } s m ([.ref h0, .int p1, .int p2, .int p3].toArray) below meth c H locs 0 0 (MQ below (QX (S := (Nat → Int32) × (Nat → Nat → Int32) × (Nat → Nat → Int64)) (fun _ => none) (fun u => (0 ≤ (u.1 3).toInt ∧ (u.1 3).toInt ≤ 3)) g (fun u => [(h0, .inr (12, [.int mthrown, .ref a1, .ref a2, .ref a3, .ref a4, .int mtaped, .ref a6, .int msize, .int mat, .int mfrom, .int mtoken, .int mvalue, .int mfaultKind, .int mfaultPlace, .ref a14, .ref a15, .int (u.1 1), .int (u.1 2), .int (u.1 3), .ref a19, .ref a20, .int mleastOrder, .int mwordsMany, .ref a23, .ref a24, .ref a25, .ref a26, .ref a27, .ref a28])), (a1, .inl (g.2 0, 225, .inl mworld)), (a15, .inl (g.2 0, 2816, .inl (u.2.1 0)))]) A) ([.ref h0, .int p1, .int p2, .int p3].toArray) s 0 0 A) (F0 m 18 ls []) := by
    intro n5470
    induction n5470 with
    | zero =>
      intro x5466 x5467 H locs ls h_x5466 hn5471
      exact absurd hn5471 (Nat.not_lt_zero _)
    | succ n5470 ih5469 =>
      intro x5466 x5467 H locs ls h_x5466 hn5471 hP hD hS hl
      refine lv_iload hx hb dX12_fill_18 (lv_at hl 0 rfl) ?_
      refine lv_aload_n hx hb dX12_fill_20 rfl (lv_at hl 1 rfl) ?_
      refine call_V (As := []) (rest := [.int x5466]) (wr := [(a15, .inl (g.2 0, 2816, .inl x5467))]) FC hKn hZ (k_X12_allStates l g h0 a1 a2 a3 a4 a6 a14 a15 a19 a20 a23 a24 a25 a26 a27 a28 mthrown mtaped msize mat mfrom mtoken mvalue mfaultKind mfaultPlace p1 p3 p2 mleastOrder mwordsMany mworld (by omega) (by omega) (by omega) (by omega) (by omega) (by omega) (by omega) (by omega) i_mworld) m_yX12_allStates b_806 (ci := 12) rfl rfl rfl hP hD hS hA [0, 1] [2] rfl (by decide) rfl (by decide) (by decide) rfl hl.1 rfl (Nat.le_of_ble_eq_true rfl) dX12_fill_21 ⟨(Nat.le_of_ble_eq_true rfl), (Nat.le_of_ble_eq_true rfl)⟩ ⟨(Nat.le_of_ble_eq_true rfl), (Nat.le_of_ble_eq_true rfl)⟩ (fun u5472 H locs q5473 hP hD hS => ?_)
      obtain ⟨q5473_0, q5473_1, q5473_2⟩ := q5473
      have hP : va_P g.1 vwCl [(a15, .inl (g.2 0, 2816, .inl x5467)), (h0, .inr (12, [.int mthrown, .ref a1, .ref a2, .ref a3, .ref a4, .int mtaped, .ref a6, .int msize, .int mat, .int mfrom, .int mtoken, .int mvalue, .int mfaultKind, .int mfaultPlace, .ref a14, .ref a15, .int p1, .int p3, .int p2, .ref a19, .ref a20, .int mleastOrder, .int mwordsMany, .ref a23, .ref a24, .ref a25, .ref a26, .ref a27, .ref a28])), (a1, .inl (g.2 0, 225, .inl mworld))] H := hP
      have hD : va_D A [(a15, .inl (g.2 0, 2816, .inl x5467)), (h0, .inr (12, [.int mthrown, .ref a1, .ref a2, .ref a3, .ref a4, .int mtaped, .ref a6, .int msize, .int mat, .int mfrom, .int mtoken, .int mvalue, .int mfaultKind, .int mfaultPlace, .ref a14, .ref a15, .int p1, .int p3, .int p2, .ref a19, .ref a20, .int mleastOrder, .int mwordsMany, .ref a23, .ref a24, .ref a25, .ref a26, .ref a27, .ref a28])), (a1, .inl (g.2 0, 225, .inl mworld))] := hD
      refine W.eq (g2 := F0 m 24 ls [.int (u5472.1 0), .int x5466]) rfl ?_
      rw [q5473_1] at q5473_0
      rw [q5473_1] at q5473_2
      refine tp_i (v := asF mworld) q5473_1 ?_
      refine lv_icmp_gt (tgt := 73) hx hb dX12_fill_24 (by decide) (fun c5474 => ?_) (fun c5474 => ?_)
      · have c5474 := k_lt (a := (asF mworld).toInt) (b := x5466.toInt) rfl rfl c5474
        refine lv_iload_n hx hb dX12_fill_73 rfl (lv_at hl 4 rfl) ?_
        refine lv_iconst (v := 1) hx hb dX12_fill_74 (by decide) ?_
        refine lv_isub hx hb dX12_fill_75 ?_
        have kc1 : (1 : Int32).toInt = 1 := by decide
        refine lv_topi (fun z5475 e_z5475 => ?_)
        have t_z5475 : z5475.toInt = p3.toInt - ((1 : Int32)).toInt := by rw [e_z5475]; exact fb_subI (by omega) (by omega)
        refine lv_istore (lv' := [(4, .int z5475), (0, .ref h0), (1, .int p1), (2, .int p2), (3, .int p3)]) hx hb dX12_fill_76 hl (by decide) rfl (fun ls hl => ?_)
        have lp5982 : ∀ (n5984 : Nat) (x5980 : Int32) (x5981 : Nat → Int32) (H : Heap) (locs : List Loc) (ls : Array Slot), -1 ≤ x5980.toInt ∧ x5980.toInt ≤ 9 → (x5980.toInt - (-1)).toNat < n5984 → va_P g.1 vwCl [(a15, .inl (g.2 0, 2816, .inl x5981)), (h0, .inr (12, [.int mthrown, .ref a1, .ref a2, .ref a3, .ref a4, .int mtaped, .ref a6, .int msize, .int mat, .int mfrom, .int mtoken, .int mvalue, .int mfaultKind, .int mfaultPlace, .ref a14, .ref a15, .int p1, .int p3, .int p2, .ref a19, .ref a20, .int mleastOrder, .int mwordsMany, .ref a23, .ref a24, .ref a25, .ref a26, .ref a27, .ref a28])), (a1, .inl (g.2 0, 225, .inl mworld))] H → va_D A [(a15, .inl (g.2 0, 2816, .inl x5981)), (h0, .inr (12, [.int mthrown, .ref a1, .ref a2, .ref a3, .ref a4, .int mtaped, .ref a6, .int msize, .int mat, .int mfrom, .int mtoken, .int mvalue, .int mfaultKind, .int mfaultPlace, .ref a14, .ref a15, .int p1, .int p3, .int p2, .ref a19, .ref a20, .int mleastOrder, .int mwordsMany, .ref a23, .ref a24, .ref a25, .ref a26, .ref a27, .ref a28])), (a1, .inl (g.2 0, 225, .inl mworld))] → va_S A s.heap H locs → lv_has ls 7 [(4, .int x5980), (0, .ref h0), (1, .int p1), (2, .int p2), (3, .int p3)] → W p l e { frames := 6, cells := 0, slots := 0, locals := 144 } s m ([.ref h0, .int p1, .int p2, .int p3].toArray) below meth c H locs 0 0 (MQ below (QX (S := (Nat → Int32) × (Nat → Nat → Int32) × (Nat → Nat → Int64)) (fun _ => none) (fun u => (0 ≤ (u.1 3).toInt ∧ (u.1 3).toInt ≤ 3)) g (fun u => [(h0, .inr (12, [.int mthrown, .ref a1, .ref a2, .ref a3, .ref a4, .int mtaped, .ref a6, .int msize, .int mat, .int mfrom, .int mtoken, .int mvalue, .int mfaultKind, .int mfaultPlace, .ref a14, .ref a15, .int (u.1 1), .int (u.1 2), .int (u.1 3), .ref a19, .ref a20, .int mleastOrder, .int mwordsMany, .ref a23, .ref a24, .ref a25, .ref a26, .ref a27, .ref a28])), (a1, .inl (g.2 0, 225, .inl mworld)), (a15, .inl (g.2 0, 2816, .inl (u.2.1 0)))]) A) ([.ref h0, .int p1, .int p2, .int p3].toArray) s 0 0 A) (F0 m 78 ls []) := by
          intro n5984
          induction n5984 with
          | zero =>
            intro x5980 x5981 H locs ls h_x5980 hn5985
            exact absurd hn5985 (Nat.not_lt_zero _)
          | succ n5984 ih5983 =>
            intro x5980 x5981 H locs ls h_x5980 hn5985 hP hD hS hl
            refine lv_iload hx hb dX12_fill_78 (lv_at hl 0 rfl) ?_
            refine lv_if_lt (tgt := 178) hx hb dX12_fill_80 (by decide) (fun c5986 => ?_) (fun c5986 => ?_)
            · have c5986 := k_lt (a := x5980.toInt) (b := 0) rfl (by decide) c5986
              exact rt_v FX ((fun k => match k with | 0 => 0 | 1 => p1 | 2 => p3 | 3 => p2 | _ => 0), (fun k => match k with | 0 => x5981 | _ => fun _ => 0), (fun _ => fun _ => 0)) rfl (show 0 ≤ p2.toInt ∧ p2.toInt ≤ 3 by omega) (hP.sub [1, 2, 0] rfl) (hD.sub [1, 2, 0] (by decide) rfl) hS (Nat.le_of_ble_eq_true rfl) (Nat.le_of_ble_eq_true rfl) dX12_fill_178
            · have c5986 := k_nlt (a := x5980.toInt) (b := 0) rfl (by decide) c5986
              refine lv_iconst (v := 1) hx hb dX12_fill_83 (by decide) ?_
              refine lv_istore (lv' := [(5, .int 1), (4, .int x5980), (0, .ref h0), (1, .int p1), (2, .int p2), (3, .int p3)]) hx hb dX12_fill_84 hl (by decide) rfl (fun ls hl => ?_)
              have lp6207 : ∀ (n6209 : Nat) (x6205 : Int32) (x6206 : Nat → Int32) (H : Heap) (locs : List Loc) (ls : Array Slot), 1 ≤ x6205.toInt ∧ x6205.toInt ≤ 256 → (256 - x6205.toInt).toNat < n6209 → va_P g.1 vwCl [(a15, .inl (g.2 0, 2816, .inl x6206)), (h0, .inr (12, [.int mthrown, .ref a1, .ref a2, .ref a3, .ref a4, .int mtaped, .ref a6, .int msize, .int mat, .int mfrom, .int mtoken, .int mvalue, .int mfaultKind, .int mfaultPlace, .ref a14, .ref a15, .int p1, .int p3, .int p2, .ref a19, .ref a20, .int mleastOrder, .int mwordsMany, .ref a23, .ref a24, .ref a25, .ref a26, .ref a27, .ref a28])), (a1, .inl (g.2 0, 225, .inl mworld))] H → va_D A [(a15, .inl (g.2 0, 2816, .inl x6206)), (h0, .inr (12, [.int mthrown, .ref a1, .ref a2, .ref a3, .ref a4, .int mtaped, .ref a6, .int msize, .int mat, .int mfrom, .int mtoken, .int mvalue, .int mfaultKind, .int mfaultPlace, .ref a14, .ref a15, .int p1, .int p3, .int p2, .ref a19, .ref a20, .int mleastOrder, .int mwordsMany, .ref a23, .ref a24, .ref a25, .ref a26, .ref a27, .ref a28])), (a1, .inl (g.2 0, 225, .inl mworld))] → va_S A s.heap H locs → lv_has ls 7 [(5, .int x6205), (4, .int x5980), (0, .ref h0), (1, .int p1), (2, .int p2), (3, .int p3)] → W p l e { frames := 6, cells := 0, slots := 0, locals := 144 } s m ([.ref h0, .int p1, .int p2, .int p3].toArray) below meth c H locs 0 0 (MQ below (QX (S := (Nat → Int32) × (Nat → Nat → Int32) × (Nat → Nat → Int64)) (fun _ => none) (fun u => (0 ≤ (u.1 3).toInt ∧ (u.1 3).toInt ≤ 3)) g (fun u => [(h0, .inr (12, [.int mthrown, .ref a1, .ref a2, .ref a3, .ref a4, .int mtaped, .ref a6, .int msize, .int mat, .int mfrom, .int mtoken, .int mvalue, .int mfaultKind, .int mfaultPlace, .ref a14, .ref a15, .int (u.1 1), .int (u.1 2), .int (u.1 3), .ref a19, .ref a20, .int mleastOrder, .int mwordsMany, .ref a23, .ref a24, .ref a25, .ref a26, .ref a27, .ref a28])), (a1, .inl (g.2 0, 225, .inl mworld)), (a15, .inl (g.2 0, 2816, .inl (u.2.1 0)))]) A) ([.ref h0, .int p1, .int p2, .int p3].toArray) s 0 0 A) (F0 m 86 ls []) := by
                intro n6209
                induction n6209 with
                | zero =>
                  intro x6205 x6206 H locs ls h_x6205 hn6210
                  exact absurd hn6210 (Nat.not_lt_zero _)
                | succ n6209 ih6208 =>
                  intro x6205 x6206 H locs ls h_x6205 hn6210 hP hD hS hl
                  refine lv_iload hx hb dX12_fill_86 (lv_at hl 0 rfl) ?_
                  refine lv_aload_n hx hb dX12_fill_88 rfl (lv_at hl 2 rfl) ?_
                  refine call_V (As := []) (rest := [.int x6205]) (wr := [(a15, .inl (g.2 0, 2816, .inl x6206))]) FC hKn hZ (k_X12_allStates l g h0 a1 a2 a3 a4 a6 a14 a15 a19 a20 a23 a24 a25 a26 a27 a28 mthrown mtaped msize mat mfrom mtoken mvalue mfaultKind mfaultPlace p1 p3 p2 mleastOrder mwordsMany mworld (by omega) (by omega) (by omega) (by omega) (by omega) (by omega) (by omega) (by omega) i_mworld) m_yX12_allStates b_806 (ci := 12) rfl rfl rfl hP hD hS hA [1, 2] [0] rfl (by decide) rfl (by decide) (by decide) rfl hl.1 rfl (Nat.le_of_ble_eq_true rfl) dX12_fill_89 ⟨(Nat.le_of_ble_eq_true rfl), (Nat.le_of_ble_eq_true rfl)⟩ ⟨(Nat.le_of_ble_eq_true rfl), (Nat.le_of_ble_eq_true rfl)⟩ (fun u6211 H locs q6212 hP hD hS => ?_)
                  obtain ⟨q6212_0, q6212_1, q6212_2⟩ := q6212
                  have hP : va_P g.1 vwCl [(a15, .inl (g.2 0, 2816, .inl x6206)), (h0, .inr (12, [.int mthrown, .ref a1, .ref a2, .ref a3, .ref a4, .int mtaped, .ref a6, .int msize, .int mat, .int mfrom, .int mtoken, .int mvalue, .int mfaultKind, .int mfaultPlace, .ref a14, .ref a15, .int p1, .int p3, .int p2, .ref a19, .ref a20, .int mleastOrder, .int mwordsMany, .ref a23, .ref a24, .ref a25, .ref a26, .ref a27, .ref a28])), (a1, .inl (g.2 0, 225, .inl mworld))] H := hP
                  have hD : va_D A [(a15, .inl (g.2 0, 2816, .inl x6206)), (h0, .inr (12, [.int mthrown, .ref a1, .ref a2, .ref a3, .ref a4, .int mtaped, .ref a6, .int msize, .int mat, .int mfrom, .int mtoken, .int mvalue, .int mfaultKind, .int mfaultPlace, .ref a14, .ref a15, .int p1, .int p3, .int p2, .ref a19, .ref a20, .int mleastOrder, .int mwordsMany, .ref a23, .ref a24, .ref a25, .ref a26, .ref a27, .ref a28])), (a1, .inl (g.2 0, 225, .inl mworld))] := hD
                  refine W.eq (g2 := F0 m 92 ls [.int (u6211.1 0), .int x6205]) rfl ?_
                  rw [q6212_1] at q6212_0
                  rw [q6212_1] at q6212_2
                  refine tp_i (v := asF mworld) q6212_1 ?_
                  refine lv_icmp_gt (tgt := 172) hx hb dX12_fill_92 (by decide) (fun c6213 => ?_) (fun c6213 => ?_)
                  · have c6213 := k_lt (a := (asF mworld).toInt) (b := x6205.toInt) rfl rfl c6213
                    obtain ⟨z6214, e_z6214⟩ : ∃ y : Int32, y = x5980 + (-1) := ⟨_, rfl⟩
                    have t_z6214 : z6214.toInt = x5980.toInt + (-1) := by rw [e_z6214]; exact addk (by decide) (by omega) (by omega)
                    refine lv_iinc (v := z6214) (lv' := [(4, .int z6214), (5, .int x6205), (0, .ref h0), (1, .int p1), (2, .int p2), (3, .int p3)]) hx hb dX12_fill_172 hl (k := 1) rfl (by rw [e_z6214]; rfl) (by decide) rfl (fun ls hl => ?_)
                    refine lv_goto (tgt := 78) hx hb dX12_fill_175 (by decide) ?_
                    exact ih5983 z6214 x6206 _ _ ls (by omega) (by omega) hP hD hS (lv_sub hl [0, 2, 3, 4, 5] rfl)
                  · have c6213 := k_nlt (a := (asF mworld).toInt) (b := x6205.toInt) rfl rfl c6213
                    refine lv_aload_n hx hb dX12_fill_95 rfl (lv_at hl 2 rfl) ?_
                    refine lv_iload hx hb dX12_fill_96 (lv_at hl 1 rfl) ?_
                    refine lv_iload hx hb dX12_fill_98 (lv_at hl 0 rfl) ?_
                    refine lv_aload_n hx hb dX12_fill_100 rfl (lv_at hl 2 rfl) ?_
                    refine lv_iload hx hb dX12_fill_101 (lv_at hl 1 rfl) ?_
                    refine lv_iload hx hb dX12_fill_103 (lv_at hl 0 rfl) ?_
                    refine call_V (As := [.int x5980, .int x6205]) (rest := [.int x6205, .int x5980, .ref h0]) (wr := []) FC hKn hZ (k_X12_bestWord l g h0 a1 a2 a3 a4 a6 a14 a15 a19 a20 a23 a24 a25 a26 a27 a28 mthrown mtaped msize mat mfrom mtoken mvalue mfaultKind mfaultPlace p1 p3 p2 mleastOrder mwordsMany mworld x6206 x5980 x6205 (by omega) (by omega) (by omega) (by omega) (by omega) (by omega) (by omega) (by omega) i_mworld (by omega) (by omega)) m_yX12_bestWord b_971 (ci := 12) rfl rfl rfl hP hD hS hA [1, 2, 0] [] rfl (by decide) rfl (by decide) (by decide) rfl hl.1 rfl (Nat.le_of_ble_eq_true rfl) dX12_fill_105 ⟨(Nat.le_of_ble_eq_true rfl), (Nat.le_of_ble_eq_true rfl)⟩ ⟨(Nat.le_of_ble_eq_true rfl), (Nat.le_of_ble_eq_true rfl)⟩ (fun u6215 H locs q6216 hP hD hS => ?_)
                    obtain ⟨q6216_0, q6216_1⟩ := q6216
                    have hP : va_P g.1 vwCl [(h0, .inr (12, [.int mthrown, .ref a1, .ref a2, .ref a3, .ref a4, .int mtaped, .ref a6, .int msize, .int mat, .int mfrom, .int mtoken, .int mvalue, .int mfaultKind, .int mfaultPlace, .ref a14, .ref a15, .int p1, .int p3, .int p2, .ref a19, .ref a20, .int mleastOrder, .int mwordsMany, .ref a23, .ref a24, .ref a25, .ref a26, .ref a27, .ref a28])), (a1, .inl (g.2 0, 225, .inl mworld)), (a15, .inl (g.2 0, 2816, .inl x6206))] H := hP
                    have hD : va_D A [(h0, .inr (12, [.int mthrown, .ref a1, .ref a2, .ref a3, .ref a4, .int mtaped, .ref a6, .int msize, .int mat, .int mfrom, .int mtoken, .int mvalue, .int mfaultKind, .int mfaultPlace, .ref a14, .ref a15, .int p1, .int p3, .int p2, .ref a19, .ref a20, .int mleastOrder, .int mwordsMany, .ref a23, .ref a24, .ref a25, .ref a26, .ref a27, .ref a28])), (a1, .inl (g.2 0, 225, .inl mworld)), (a15, .inl (g.2 0, 2816, .inl x6206))] := hD
                    refine W.eq (g2 := F0 m 108 ls [.int (u6215.1 0), .int x6205, .int x5980, .ref h0]) rfl ?_
                    refine call_V (As := [.int x5980, .int x6205, .int (u6215.1 0)]) (rest := []) (wr := []) FC hKn hZ (k_X12_by l g h0 a1 a2 a3 a4 a6 a14 a15 a19 a20 a23 a24 a25 a26 a27 a28 mthrown mtaped msize mat mfrom mtoken mvalue mfaultKind mfaultPlace p1 p3 p2 mleastOrder mwordsMany mworld x6206 x5980 x6205 (u6215.1 0) (by omega) (by omega) (by omega) (by omega) (by omega) (by omega) (by omega) (by omega) i_mworld (by omega) (by omega) (by omega) (by omega)) m_yX12_by b_969 (ci := 12) rfl rfl rfl hP hD hS hA [0, 1, 2] [] rfl (by decide) rfl (by decide) (by decide) rfl hl.1 rfl (Nat.le_of_ble_eq_true rfl) dX12_fill_108 ⟨(Nat.le_of_ble_eq_true rfl), (Nat.le_of_ble_eq_true rfl)⟩ ⟨(Nat.le_of_ble_eq_true rfl), (Nat.le_of_ble_eq_true rfl)⟩ (fun u6217 H locs q6218 hP hD hS => ?_)
                    have hP : va_P g.1 vwCl [(h0, .inr (12, [.int mthrown, .ref a1, .ref a2, .ref a3, .ref a4, .int mtaped, .ref a6, .int msize, .int mat, .int mfrom, .int mtoken, .int mvalue, .int mfaultKind, .int mfaultPlace, .ref a14, .ref a15, .int p1, .int p3, .int p2, .ref a19, .ref a20, .int mleastOrder, .int mwordsMany, .ref a23, .ref a24, .ref a25, .ref a26, .ref a27, .ref a28])), (a1, .inl (g.2 0, 225, .inl mworld)), (a15, .inl (g.2 0, 2816, .inl x6206))] H := hP
                    have hD : va_D A [(h0, .inr (12, [.int mthrown, .ref a1, .ref a2, .ref a3, .ref a4, .int mtaped, .ref a6, .int msize, .int mat, .int mfrom, .int mtoken, .int mvalue, .int mfaultKind, .int mfaultPlace, .ref a14, .ref a15, .int p1, .int p3, .int p2, .ref a19, .ref a20, .int mleastOrder, .int mwordsMany, .ref a23, .ref a24, .ref a25, .ref a26, .ref a27, .ref a28])), (a1, .inl (g.2 0, 225, .inl mworld)), (a15, .inl (g.2 0, 2816, .inl x6206))] := hD
                    refine W.eq (g2 := F0 m 111 ls [.int (u6217.1 0)]) rfl ?_
                    refine lv_istore (lv' := [(6, .int (u6217.1 0)), (5, .int x6205), (4, .int x5980), (0, .ref h0), (1, .int p1), (2, .int p2), (3, .int p3)]) hx hb dX12_fill_111 hl (by decide) rfl (fun ls hl => ?_)
                    refine lv_aload_n hx hb dX12_fill_113 rfl (lv_at hl 3 rfl) ?_
                    refine g_get (C := RX12) (T := TX12) (N := 29) (ci := 12) (v := .ref a15) FC hKn hP i_X12 0 rfl rfl 15 (by decide) b_965 rfl dX12_fill_114 ?_
                    refine lv_sipush (v := 256) hx hb dX12_fill_117 (by decide) ?_
                    refine lv_iload hx hb dX12_fill_120 (lv_at hl 2 rfl) ?_
                    refine lv_imul hx hb dX12_fill_122 ?_
                    have kc256 : (256 : Int32).toInt = 256 := by decide
                    refine lv_topi (fun z6219 e_z6219 => ?_)
                    have t_z6219 : z6219.toInt = 256 * x5980.toInt := by rw [e_z6219, fb_mulI (by rw [show (256 : Int32).toInt = 256 by decide]; omega) (by rw [show (256 : Int32).toInt = 256 by decide]; omega), show (256 : Int32).toInt = 256 by decide]
                    refine lv_iload hx hb dX12_fill_123 (lv_at hl 1 rfl) ?_
                    refine lv_iadd hx hb dX12_fill_125 ?_
                    refine lv_topi (fun z6220 e_z6220 => ?_)
                    have t_z6220 : z6220.toInt = z6219.toInt + x6205.toInt := by rw [e_z6220]; exact fb_addI (by omega) (by omega)
                    refine lv_iload_n hx hb dX12_fill_126 rfl (lv_at hl 4 rfl) ?_
                    refine lv_iconst (v := 4) hx hb dX12_fill_127 (by decide) ?_
                    refine lv_icmp_ne (tgt := 163) hx hb dX12_fill_128 (by decide) (fun c6221 => ?_) (fun c6221 => ?_)
                    · have c6221 := k_ne (a := p1.toInt) (b := 4) rfl (by decide) c6221
                      refine lv_iload hx hb dX12_fill_163 (lv_at hl 0 rfl) ?_
                      refine va_iast hx hb hKn.1 hP hD hS 2 0 rfl rfl (vp_in_iff.mpr ⟨by omega, by omega⟩) dX12_fill_165 (fun H locs hP hD hS => ?_)
                      have hP : va_P g.1 vwCl [(h0, .inr (12, [.int mthrown, .ref a1, .ref a2, .ref a3, .ref a4, .int mtaped, .ref a6, .int msize, .int mat, .int mfrom, .int mtoken, .int mvalue, .int mfaultKind, .int mfaultPlace, .ref a14, .ref a15, .int p1, .int p3, .int p2, .ref a19, .ref a20, .int mleastOrder, .int mwordsMany, .ref a23, .ref a24, .ref a25, .ref a26, .ref a27, .ref a28])), (a1, .inl (g.2 0, 225, .inl mworld)), (a15, .inl (g.2 0, 2816, .inl (upd x6206 (z6220.toNatClampNeg) (u6217.1 0))))] H := hP
                      have hD : va_D A [(h0, .inr (12, [.int mthrown, .ref a1, .ref a2, .ref a3, .ref a4, .int mtaped, .ref a6, .int msize, .int mat, .int mfrom, .int mtoken, .int mvalue, .int mfaultKind, .int mfaultPlace, .ref a14, .ref a15, .int p1, .int p3, .int p2, .ref a19, .ref a20, .int mleastOrder, .int mwordsMany, .ref a23, .ref a24, .ref a25, .ref a26, .ref a27, .ref a28])), (a1, .inl (g.2 0, 225, .inl mworld)), (a15, .inl (g.2 0, 2816, .inl (upd x6206 (z6220.toNatClampNeg) (u6217.1 0))))] := hD
                      generalize (upd x6206 (z6220.toNatClampNeg) (u6217.1 0) : Nat → Int32) = f6222 at hP hD
                      obtain ⟨z6223, e_z6223⟩ : ∃ y : Int32, y = x6205 + 1 := ⟨_, rfl⟩
                      have t_z6223 : z6223.toInt = x6205.toInt + 1 := by rw [e_z6223]; exact addk (by decide) (by omega) (by omega)
                      refine lv_iinc (v := z6223) (lv' := [(5, .int z6223), (6, .int (u6217.1 0)), (4, .int x5980), (0, .ref h0), (1, .int p1), (2, .int p2), (3, .int p3)]) hx hb dX12_fill_166 hl (k := 1) rfl (by rw [e_z6223]; rfl) (by decide) rfl (fun ls hl => ?_)
                      refine lv_goto (tgt := 86) hx hb dX12_fill_169 (by decide) ?_
                      exact ih6208 z6223 f6222 _ _ ls (by omega) (by omega) (hP.sub [2, 0, 1] rfl) (hD.sub [2, 0, 1] (by decide) rfl) hS (lv_sub hl [0, 2, 3, 4, 5, 6] rfl)
                    · have c6221 := k_eq (a := p1.toInt) (b := 4) rfl (by decide) c6221
                      refine lv_iload hx hb dX12_fill_131 (lv_at hl 2 rfl) ?_
                      refine lv_if_le (tgt := 163) hx hb dX12_fill_133 (by decide) (fun c6224 => ?_) (fun c6224 => ?_)
                      · have c6224 := k_le (a := x5980.toInt) (b := 0) rfl (by decide) c6224
                        refine lv_iload hx hb dX12_fill_163 (lv_at hl 0 rfl) ?_
                        refine va_iast hx hb hKn.1 hP hD hS 2 0 rfl rfl (vp_in_iff.mpr ⟨by omega, by omega⟩) dX12_fill_165 (fun H locs hP hD hS => ?_)
                        have hP : va_P g.1 vwCl [(h0, .inr (12, [.int mthrown, .ref a1, .ref a2, .ref a3, .ref a4, .int mtaped, .ref a6, .int msize, .int mat, .int mfrom, .int mtoken, .int mvalue, .int mfaultKind, .int mfaultPlace, .ref a14, .ref a15, .int p1, .int p3, .int p2, .ref a19, .ref a20, .int mleastOrder, .int mwordsMany, .ref a23, .ref a24, .ref a25, .ref a26, .ref a27, .ref a28])), (a1, .inl (g.2 0, 225, .inl mworld)), (a15, .inl (g.2 0, 2816, .inl (upd x6206 (z6220.toNatClampNeg) (u6217.1 0))))] H := hP
                        have hD : va_D A [(h0, .inr (12, [.int mthrown, .ref a1, .ref a2, .ref a3, .ref a4, .int mtaped, .ref a6, .int msize, .int mat, .int mfrom, .int mtoken, .int mvalue, .int mfaultKind, .int mfaultPlace, .ref a14, .ref a15, .int p1, .int p3, .int p2, .ref a19, .ref a20, .int mleastOrder, .int mwordsMany, .ref a23, .ref a24, .ref a25, .ref a26, .ref a27, .ref a28])), (a1, .inl (g.2 0, 225, .inl mworld)), (a15, .inl (g.2 0, 2816, .inl (upd x6206 (z6220.toNatClampNeg) (u6217.1 0))))] := hD
                        generalize (upd x6206 (z6220.toNatClampNeg) (u6217.1 0) : Nat → Int32) = f6225 at hP hD
                        obtain ⟨z6226, e_z6226⟩ : ∃ y : Int32, y = x6205 + 1 := ⟨_, rfl⟩
                        have t_z6226 : z6226.toInt = x6205.toInt + 1 := by rw [e_z6226]; exact addk (by decide) (by omega) (by omega)
                        refine lv_iinc (v := z6226) (lv' := [(5, .int z6226), (6, .int (u6217.1 0)), (4, .int x5980), (0, .ref h0), (1, .int p1), (2, .int p2), (3, .int p3)]) hx hb dX12_fill_166 hl (k := 1) rfl (by rw [e_z6226]; rfl) (by decide) rfl (fun ls hl => ?_)
                        refine lv_goto (tgt := 86) hx hb dX12_fill_169 (by decide) ?_
                        exact ih6208 z6226 f6225 _ _ ls (by omega) (by omega) (hP.sub [2, 0, 1] rfl) (hD.sub [2, 0, 1] (by decide) rfl) hS (lv_sub hl [0, 2, 3, 4, 5, 6] rfl)
                      · have c6224 := k_nle (a := x5980.toInt) (b := 0) rfl (by decide) c6224
                        refine lv_aload_n hx hb dX12_fill_136 rfl (lv_at hl 3 rfl) ?_
                        refine lv_aload_n hx hb dX12_fill_137 rfl (lv_at hl 3 rfl) ?_
                        refine lv_aload_n hx hb dX12_fill_138 rfl (lv_at hl 3 rfl) ?_
                        refine lv_iload_n hx hb dX12_fill_139 rfl (lv_at hl 5 rfl) ?_
                        refine lv_iload hx hb dX12_fill_140 (lv_at hl 1 rfl) ?_
                        refine lv_aload_n hx hb dX12_fill_142 rfl (lv_at hl 3 rfl) ?_
                        refine call_V (As := []) (rest := [.int x6205, .int p2, .ref h0, .ref h0, .ref h0, .int z6220, .ref a15]) (wr := [(a15, .inl (g.2 0, 2816, .inl x6206))]) FC hKn hZ (k_X12_reallySet l g h0 a1 a2 a3 a4 a6 a14 a15 a19 a20 a23 a24 a25 a26 a27 a28 mthrown mtaped msize mat mfrom mtoken mvalue mfaultKind mfaultPlace p1 p3 p2 mleastOrder mwordsMany mworld (by omega) (by omega) (by omega) (by omega) (by omega) (by omega) (by omega) (by omega) i_mworld) m_yX12_reallySet b_945 (ci := 12) rfl rfl rfl hP hD hS hA [0, 1] [2] rfl (by decide) rfl (by decide) (by decide) rfl hl.1 rfl (Nat.le_of_ble_eq_true rfl) dX12_fill_143 ⟨(Nat.le_of_ble_eq_true rfl), (Nat.le_of_ble_eq_true rfl)⟩ ⟨(Nat.le_of_ble_eq_true rfl), (Nat.le_of_ble_eq_true rfl)⟩ (fun u6227 H locs q6228 hP hD hS => ?_)
                        have q6228_0 : 1 ≤ (u6227.1 0).toInt ∧ (u6227.1 0).toInt ≤ 128 := q6228
                        have hP : va_P g.1 vwCl [(a15, .inl (g.2 0, 2816, .inl x6206)), (h0, .inr (12, [.int mthrown, .ref a1, .ref a2, .ref a3, .ref a4, .int mtaped, .ref a6, .int msize, .int mat, .int mfrom, .int mtoken, .int mvalue, .int mfaultKind, .int mfaultPlace, .ref a14, .ref a15, .int p1, .int p3, .int p2, .ref a19, .ref a20, .int mleastOrder, .int mwordsMany, .ref a23, .ref a24, .ref a25, .ref a26, .ref a27, .ref a28])), (a1, .inl (g.2 0, 225, .inl mworld))] H := hP
                        have hD : va_D A [(a15, .inl (g.2 0, 2816, .inl x6206)), (h0, .inr (12, [.int mthrown, .ref a1, .ref a2, .ref a3, .ref a4, .int mtaped, .ref a6, .int msize, .int mat, .int mfrom, .int mtoken, .int mvalue, .int mfaultKind, .int mfaultPlace, .ref a14, .ref a15, .int p1, .int p3, .int p2, .ref a19, .ref a20, .int mleastOrder, .int mwordsMany, .ref a23, .ref a24, .ref a25, .ref a26, .ref a27, .ref a28])), (a1, .inl (g.2 0, 225, .inl mworld))] := hD
                        refine W.eq (g2 := F0 m 146 ls [.int (u6227.1 0), .int x6205, .int p2, .ref h0, .ref h0, .ref h0, .int z6220, .ref a15]) rfl ?_
                        refine call_V (As := [.int p2, .int x6205, .int (u6227.1 0)]) (rest := [.ref h0, .ref h0, .int z6220, .ref a15]) (wr := [(a15, .inl (g.2 0, 2816, .inl x6206))]) FC hKn hZ (k_X12_rise l g h0 a1 a2 a3 a4 a6 a14 a15 a19 a20 a23 a24 a25 a26 a27 a28 mthrown mtaped msize mat mfrom mtoken mvalue mfaultKind mfaultPlace p1 p3 p2 mleastOrder mwordsMany mworld p2 x6205 (u6227.1 0) (by omega) (by omega) (by omega) (by omega) (by omega) (by omega) (by omega) (by omega) i_mworld (by omega) (by omega) (by omega)) m_yX12_rise b_855 (ci := 12) rfl rfl rfl hP hD hS hA [1, 2] [0] rfl (by decide) rfl (by decide) (by decide) rfl hl.1 rfl (Nat.le_of_ble_eq_true rfl) dX12_fill_146 ⟨(Nat.le_of_ble_eq_true rfl), (Nat.le_of_ble_eq_true rfl)⟩ ⟨(Nat.le_of_ble_eq_true rfl), (Nat.le_of_ble_eq_true rfl)⟩ (fun u6229 H locs q6230 hP hD hS => ?_)
                        have hP : va_P g.1 vwCl [(a15, .inl (g.2 0, 2816, .inl x6206)), (h0, .inr (12, [.int mthrown, .ref a1, .ref a2, .ref a3, .ref a4, .int mtaped, .ref a6, .int msize, .int mat, .int mfrom, .int mtoken, .int mvalue, .int mfaultKind, .int mfaultPlace, .ref a14, .ref a15, .int p1, .int p3, .int p2, .ref a19, .ref a20, .int mleastOrder, .int mwordsMany, .ref a23, .ref a24, .ref a25, .ref a26, .ref a27, .ref a28])), (a1, .inl (g.2 0, 225, .inl mworld))] H := hP
                        have hD : va_D A [(a15, .inl (g.2 0, 2816, .inl x6206)), (h0, .inr (12, [.int mthrown, .ref a1, .ref a2, .ref a3, .ref a4, .int mtaped, .ref a6, .int msize, .int mat, .int mfrom, .int mtoken, .int mvalue, .int mfaultKind, .int mfaultPlace, .ref a14, .ref a15, .int p1, .int p3, .int p2, .ref a19, .ref a20, .int mleastOrder, .int mwordsMany, .ref a23, .ref a24, .ref a25, .ref a26, .ref a27, .ref a28])), (a1, .inl (g.2 0, 225, .inl mworld))] := hD
                        refine W.eq (g2 := F0 m 149 ls [.int (u6229.1 0), .ref h0, .ref h0, .int z6220, .ref a15]) rfl ?_
                        refine lv_iload hx hb dX12_fill_149 (lv_at hl 2 rfl) ?_
                        refine lv_iload_n hx hb dX12_fill_151 rfl (lv_at hl 6 rfl) ?_
                        refine call_V (As := [.int (u6229.1 0), .int x5980, .int p3]) (rest := [.ref h0, .int z6220, .ref a15]) (wr := [(a15, .inl (g.2 0, 2816, .inl x6206))]) FC hKn hZ (k_X12_leftOf l g h0 a1 a2 a3 a4 a6 a14 a15 a19 a20 a23 a24 a25 a26 a27 a28 mthrown mtaped msize mat mfrom mtoken mvalue mfaultKind mfaultPlace p1 p3 p2 mleastOrder mwordsMany mworld (u6229.1 0) x5980 p3 (by omega) (by omega) (by omega) (by omega) (by omega) (by omega) (by omega) (by omega) i_mworld) m_yX12_leftOf b_942 (ci := 12) rfl rfl rfl hP hD hS hA [1, 2] [0] rfl (by decide) rfl (by decide) (by decide) rfl hl.1 rfl (Nat.le_of_ble_eq_true rfl) dX12_fill_152 ⟨(Nat.le_of_ble_eq_true rfl), (Nat.le_of_ble_eq_true rfl)⟩ ⟨(Nat.le_of_ble_eq_true rfl), (Nat.le_of_ble_eq_true rfl)⟩ (fun u6231 H locs q6232 hP hD hS => ?_)
                        have hP : va_P g.1 vwCl [(a15, .inl (g.2 0, 2816, .inl x6206)), (h0, .inr (12, [.int mthrown, .ref a1, .ref a2, .ref a3, .ref a4, .int mtaped, .ref a6, .int msize, .int mat, .int mfrom, .int mtoken, .int mvalue, .int mfaultKind, .int mfaultPlace, .ref a14, .ref a15, .int p1, .int p3, .int p2, .ref a19, .ref a20, .int mleastOrder, .int mwordsMany, .ref a23, .ref a24, .ref a25, .ref a26, .ref a27, .ref a28])), (a1, .inl (g.2 0, 225, .inl mworld))] H := hP
                        have hD : va_D A [(a15, .inl (g.2 0, 2816, .inl x6206)), (h0, .inr (12, [.int mthrown, .ref a1, .ref a2, .ref a3, .ref a4, .int mtaped, .ref a6, .int msize, .int mat, .int mfrom, .int mtoken, .int mvalue, .int mfaultKind, .int mfaultPlace, .ref a14, .ref a15, .int p1, .int p3, .int p2, .ref a19, .ref a20, .int mleastOrder, .int mwordsMany, .ref a23, .ref a24, .ref a25, .ref a26, .ref a27, .ref a28])), (a1, .inl (g.2 0, 225, .inl mworld))] := hD
                        refine W.eq (g2 := F0 m 155 ls [.int (u6231.1 0), .ref h0, .int z6220, .ref a15]) rfl ?_
                        refine lv_iload hx hb dX12_fill_155 (lv_at hl 0 rfl) ?_
                        refine call_V (As := [.int (u6231.1 0), .int (u6217.1 0)]) (rest := [.int z6220, .ref a15]) (wr := [(a15, .inl (g.2 0, 2816, .inl x6206))]) FC hKn hZ (k_X12_mixed l g h0 a1 a2 a3 a4 a6 a14 a15 a19 a20 a23 a24 a25 a26 a27 a28 mthrown mtaped msize mat mfrom mtoken mvalue mfaultKind mfaultPlace p1 p3 p2 mleastOrder mwordsMany mworld (u6231.1 0) (u6217.1 0) (by omega) (by omega) (by omega) (by omega) (by omega) (by omega) (by omega) (by omega) i_mworld) m_yX12_mixed b_972 (ci := 12) rfl rfl rfl hP hD hS hA [1, 2] [0] rfl (by decide) rfl (by decide) (by decide) rfl hl.1 rfl (Nat.le_of_ble_eq_true rfl) dX12_fill_157 ⟨(Nat.le_of_ble_eq_true rfl), (Nat.le_of_ble_eq_true rfl)⟩ ⟨(Nat.le_of_ble_eq_true rfl), (Nat.le_of_ble_eq_true rfl)⟩ (fun u6233 H locs q6234 hP hD hS => ?_)
                        have hP : va_P g.1 vwCl [(a15, .inl (g.2 0, 2816, .inl x6206)), (h0, .inr (12, [.int mthrown, .ref a1, .ref a2, .ref a3, .ref a4, .int mtaped, .ref a6, .int msize, .int mat, .int mfrom, .int mtoken, .int mvalue, .int mfaultKind, .int mfaultPlace, .ref a14, .ref a15, .int p1, .int p3, .int p2, .ref a19, .ref a20, .int mleastOrder, .int mwordsMany, .ref a23, .ref a24, .ref a25, .ref a26, .ref a27, .ref a28])), (a1, .inl (g.2 0, 225, .inl mworld))] H := hP
                        have hD : va_D A [(a15, .inl (g.2 0, 2816, .inl x6206)), (h0, .inr (12, [.int mthrown, .ref a1, .ref a2, .ref a3, .ref a4, .int mtaped, .ref a6, .int msize, .int mat, .int mfrom, .int mtoken, .int mvalue, .int mfaultKind, .int mfaultPlace, .ref a14, .ref a15, .int p1, .int p3, .int p2, .ref a19, .ref a20, .int mleastOrder, .int mwordsMany, .ref a23, .ref a24, .ref a25, .ref a26, .ref a27, .ref a28])), (a1, .inl (g.2 0, 225, .inl mworld))] := hD
                        refine W.eq (g2 := F0 m 160 ls [.int (u6233.1 0), .int z6220, .ref a15]) rfl ?_
                        refine lv_goto (tgt := 165) hx hb dX12_fill_160 (by decide) ?_
                        refine va_iast hx hb hKn.1 hP hD hS 0 0 rfl rfl (vp_in_iff.mpr ⟨by omega, by omega⟩) dX12_fill_165 (fun H locs hP hD hS => ?_)
                        have hP : va_P g.1 vwCl [(a15, .inl (g.2 0, 2816, .inl (upd x6206 (z6220.toNatClampNeg) (u6233.1 0)))), (h0, .inr (12, [.int mthrown, .ref a1, .ref a2, .ref a3, .ref a4, .int mtaped, .ref a6, .int msize, .int mat, .int mfrom, .int mtoken, .int mvalue, .int mfaultKind, .int mfaultPlace, .ref a14, .ref a15, .int p1, .int p3, .int p2, .ref a19, .ref a20, .int mleastOrder, .int mwordsMany, .ref a23, .ref a24, .ref a25, .ref a26, .ref a27, .ref a28])), (a1, .inl (g.2 0, 225, .inl mworld))] H := hP
                        have hD : va_D A [(a15, .inl (g.2 0, 2816, .inl (upd x6206 (z6220.toNatClampNeg) (u6233.1 0)))), (h0, .inr (12, [.int mthrown, .ref a1, .ref a2, .ref a3, .ref a4, .int mtaped, .ref a6, .int msize, .int mat, .int mfrom, .int mtoken, .int mvalue, .int mfaultKind, .int mfaultPlace, .ref a14, .ref a15, .int p1, .int p3, .int p2, .ref a19, .ref a20, .int mleastOrder, .int mwordsMany, .ref a23, .ref a24, .ref a25, .ref a26, .ref a27, .ref a28])), (a1, .inl (g.2 0, 225, .inl mworld))] := hD
                        generalize (upd x6206 (z6220.toNatClampNeg) (u6233.1 0) : Nat → Int32) = f6235 at hP hD
                        obtain ⟨z6236, e_z6236⟩ : ∃ y : Int32, y = x6205 + 1 := ⟨_, rfl⟩
                        have t_z6236 : z6236.toInt = x6205.toInt + 1 := by rw [e_z6236]; exact addk (by decide) (by omega) (by omega)
                        refine lv_iinc (v := z6236) (lv' := [(5, .int z6236), (6, .int (u6217.1 0)), (4, .int x5980), (0, .ref h0), (1, .int p1), (2, .int p2), (3, .int p3)]) hx hb dX12_fill_166 hl (k := 1) rfl (by rw [e_z6236]; rfl) (by decide) rfl (fun ls hl => ?_)
                        refine lv_goto (tgt := 86) hx hb dX12_fill_169 (by decide) ?_
                        exact ih6208 z6236 f6235 _ _ ls (by omega) (by omega) hP hD hS (lv_sub hl [0, 2, 3, 4, 5, 6] rfl)
              exact lp6207 _ (1 : Int32) x5981 _ _ ls (by decide) (Nat.lt_succ_self _) hP hD hS (lv_sub hl [0, 1, 2, 3, 4, 5] rfl)
        exact lp5982 _ z5475 x5467 _ _ ls (by omega) (Nat.lt_succ_self _) hP hD hS (lv_sub hl [0, 1, 2, 3, 4] rfl)
      · have c5474 := k_nlt (a := (asF mworld).toInt) (b := x5466.toInt) rfl rfl c5474
        refine lv_aload_n hx hb dX12_fill_27 rfl (lv_at hl 1 rfl) ?_
        refine g_get (C := RX12) (T := TX12) (N := 29) (ci := 12) (v := .ref a15) FC hKn hP i_X12 1 rfl rfl 15 (by decide) b_965 rfl dX12_fill_28 ?_
        refine lv_sipush (v := 256) hx hb dX12_fill_31 (by decide) ?_
        refine lv_iload_n hx hb dX12_fill_34 rfl (lv_at hl 4 rfl) ?_
        refine lv_imul hx hb dX12_fill_35 ?_
        have kc256 : (256 : Int32).toInt = 256 := by decide
        refine lv_topi (fun z6237 e_z6237 => ?_)
        have t_z6237 : z6237.toInt = 256 * p3.toInt := by rw [e_z6237, fb_mulI (by rw [show (256 : Int32).toInt = 256 by decide]; omega) (by rw [show (256 : Int32).toInt = 256 by decide]; omega), show (256 : Int32).toInt = 256 by decide]
        refine lv_iload hx hb dX12_fill_36 (lv_at hl 0 rfl) ?_
        refine lv_iadd hx hb dX12_fill_38 ?_
        refine lv_topi (fun z6238 e_z6238 => ?_)
        have t_z6238 : z6238.toInt = z6237.toInt + x5466.toInt := by rw [e_z6238]; exact fb_addI (by omega) (by omega)
        refine lv_iload hx hb dX12_fill_39 (lv_at hl 0 rfl) ?_
        refine lv_aload_n hx hb dX12_fill_41 rfl (lv_at hl 1 rfl) ?_
        refine call_V (As := []) (rest := [.int x5466, .int z6238, .ref a15]) (wr := [(a15, .inl (g.2 0, 2816, .inl x5467))]) FC hKn hZ (k_X12_reallySet l g h0 a1 a2 a3 a4 a6 a14 a15 a19 a20 a23 a24 a25 a26 a27 a28 mthrown mtaped msize mat mfrom mtoken mvalue mfaultKind mfaultPlace p1 p3 p2 mleastOrder mwordsMany mworld (by omega) (by omega) (by omega) (by omega) (by omega) (by omega) (by omega) (by omega) i_mworld) m_yX12_reallySet b_945 (ci := 12) rfl rfl rfl hP hD hS hA [1, 2] [0] rfl (by decide) rfl (by decide) (by decide) rfl hl.1 rfl (Nat.le_of_ble_eq_true rfl) dX12_fill_42 ⟨(Nat.le_of_ble_eq_true rfl), (Nat.le_of_ble_eq_true rfl)⟩ ⟨(Nat.le_of_ble_eq_true rfl), (Nat.le_of_ble_eq_true rfl)⟩ (fun u6239 H locs q6240 hP hD hS => ?_)
        have q6240_0 : 1 ≤ (u6239.1 0).toInt ∧ (u6239.1 0).toInt ≤ 128 := q6240
        have hP : va_P g.1 vwCl [(a15, .inl (g.2 0, 2816, .inl x5467)), (h0, .inr (12, [.int mthrown, .ref a1, .ref a2, .ref a3, .ref a4, .int mtaped, .ref a6, .int msize, .int mat, .int mfrom, .int mtoken, .int mvalue, .int mfaultKind, .int mfaultPlace, .ref a14, .ref a15, .int p1, .int p3, .int p2, .ref a19, .ref a20, .int mleastOrder, .int mwordsMany, .ref a23, .ref a24, .ref a25, .ref a26, .ref a27, .ref a28])), (a1, .inl (g.2 0, 225, .inl mworld))] H := hP
        have hD : va_D A [(a15, .inl (g.2 0, 2816, .inl x5467)), (h0, .inr (12, [.int mthrown, .ref a1, .ref a2, .ref a3, .ref a4, .int mtaped, .ref a6, .int msize, .int mat, .int mfrom, .int mtoken, .int mvalue, .int mfaultKind, .int mfaultPlace, .ref a14, .ref a15, .int p1, .int p3, .int p2, .ref a19, .ref a20, .int mleastOrder, .int mwordsMany, .ref a23, .ref a24, .ref a25, .ref a26, .ref a27, .ref a28])), (a1, .inl (g.2 0, 225, .inl mworld))] := hD
        refine W.eq (g2 := F0 m 45 ls [.int (u6239.1 0), .int x5466, .int z6238, .ref a15]) rfl ?_
        refine lv_icmp_ne (tgt := 52) hx hb dX12_fill_45 (by decide) (fun c6241 => ?_) (fun c6241 => ?_)
        · have c6241 := k_ne (a := x5466.toInt) (b := (u6239.1 0).toInt) rfl rfl c6241
          refine lv_iload_n hx hb dX12_fill_52 rfl (lv_at hl 2 rfl) ?_
          refine lv_iconst (v := 4) hx hb dX12_fill_53 (by decide) ?_
          refine lv_icmp_ne (tgt := 63) hx hb dX12_fill_54 (by decide) (fun c6242 => ?_) (fun c6242 => ?_)
          · have c6242 := k_ne (a := p1.toInt) (b := 4) rfl (by decide) c6242
            refine lv_ldcw hx hb hown (hB _ b_966) dX12_fill_63 ?_
            refine va_iast hx hb hKn.1 hP hD hS 0 0 rfl rfl (vp_in_iff.mpr ⟨by omega, by omega⟩) dX12_fill_66 (fun H locs hP hD hS => ?_)
            have hP : va_P g.1 vwCl [(a15, .inl (g.2 0, 2816, .inl (upd x5467 (z6238.toNatClampNeg) 1000000000))), (h0, .inr (12, [.int mthrown, .ref a1, .ref a2, .ref a3, .ref a4, .int mtaped, .ref a6, .int msize, .int mat, .int mfrom, .int mtoken, .int mvalue, .int mfaultKind, .int mfaultPlace, .ref a14, .ref a15, .int p1, .int p3, .int p2, .ref a19, .ref a20, .int mleastOrder, .int mwordsMany, .ref a23, .ref a24, .ref a25, .ref a26, .ref a27, .ref a28])), (a1, .inl (g.2 0, 225, .inl mworld))] H := hP
            have hD : va_D A [(a15, .inl (g.2 0, 2816, .inl (upd x5467 (z6238.toNatClampNeg) 1000000000))), (h0, .inr (12, [.int mthrown, .ref a1, .ref a2, .ref a3, .ref a4, .int mtaped, .ref a6, .int msize, .int mat, .int mfrom, .int mtoken, .int mvalue, .int mfaultKind, .int mfaultPlace, .ref a14, .ref a15, .int p1, .int p3, .int p2, .ref a19, .ref a20, .int mleastOrder, .int mwordsMany, .ref a23, .ref a24, .ref a25, .ref a26, .ref a27, .ref a28])), (a1, .inl (g.2 0, 225, .inl mworld))] := hD
            generalize (upd x5467 (z6238.toNatClampNeg) 1000000000 : Nat → Int32) = f6243 at hP hD
            obtain ⟨z6244, e_z6244⟩ : ∃ y : Int32, y = x5466 + 1 := ⟨_, rfl⟩
            have t_z6244 : z6244.toInt = x5466.toInt + 1 := by rw [e_z6244]; exact addk (by decide) (by omega) (by omega)
            refine lv_iinc (v := z6244) (lv' := [(4, .int z6244), (0, .ref h0), (1, .int p1), (2, .int p2), (3, .int p3)]) hx hb dX12_fill_67 hl (k := 0) rfl (by rw [e_z6244]; rfl) (by decide) rfl (fun ls hl => ?_)
            refine lv_goto (tgt := 18) hx hb dX12_fill_70 (by decide) ?_
            exact ih5469 z6244 f6243 _ _ ls (by omega) (by omega) (hP.sub [1, 2, 0] rfl) (hD.sub [1, 2, 0] (by decide) rfl) hS (lv_sub hl [0, 1, 2, 3, 4] rfl)
          · have c6242 := k_eq (a := p1.toInt) (b := 4) rfl (by decide) c6242
            refine lv_ldcw hx hb hown (hB _ b_970) dX12_fill_57 ?_
            refine lv_goto (tgt := 66) hx hb dX12_fill_60 (by decide) ?_
            refine va_iast hx hb hKn.1 hP hD hS 0 0 rfl rfl (vp_in_iff.mpr ⟨by omega, by omega⟩) dX12_fill_66 (fun H locs hP hD hS => ?_)
            have hP : va_P g.1 vwCl [(a15, .inl (g.2 0, 2816, .inl (upd x5467 (z6238.toNatClampNeg) 100000))), (h0, .inr (12, [.int mthrown, .ref a1, .ref a2, .ref a3, .ref a4, .int mtaped, .ref a6, .int msize, .int mat, .int mfrom, .int mtoken, .int mvalue, .int mfaultKind, .int mfaultPlace, .ref a14, .ref a15, .int p1, .int p3, .int p2, .ref a19, .ref a20, .int mleastOrder, .int mwordsMany, .ref a23, .ref a24, .ref a25, .ref a26, .ref a27, .ref a28])), (a1, .inl (g.2 0, 225, .inl mworld))] H := hP
            have hD : va_D A [(a15, .inl (g.2 0, 2816, .inl (upd x5467 (z6238.toNatClampNeg) 100000))), (h0, .inr (12, [.int mthrown, .ref a1, .ref a2, .ref a3, .ref a4, .int mtaped, .ref a6, .int msize, .int mat, .int mfrom, .int mtoken, .int mvalue, .int mfaultKind, .int mfaultPlace, .ref a14, .ref a15, .int p1, .int p3, .int p2, .ref a19, .ref a20, .int mleastOrder, .int mwordsMany, .ref a23, .ref a24, .ref a25, .ref a26, .ref a27, .ref a28])), (a1, .inl (g.2 0, 225, .inl mworld))] := hD
            generalize (upd x5467 (z6238.toNatClampNeg) 100000 : Nat → Int32) = f6245 at hP hD
            obtain ⟨z6246, e_z6246⟩ : ∃ y : Int32, y = x5466 + 1 := ⟨_, rfl⟩
            have t_z6246 : z6246.toInt = x5466.toInt + 1 := by rw [e_z6246]; exact addk (by decide) (by omega) (by omega)
            refine lv_iinc (v := z6246) (lv' := [(4, .int z6246), (0, .ref h0), (1, .int p1), (2, .int p2), (3, .int p3)]) hx hb dX12_fill_67 hl (k := 0) rfl (by rw [e_z6246]; rfl) (by decide) rfl (fun ls hl => ?_)
            refine lv_goto (tgt := 18) hx hb dX12_fill_70 (by decide) ?_
            exact ih5469 z6246 f6245 _ _ ls (by omega) (by omega) (hP.sub [1, 2, 0] rfl) (hD.sub [1, 2, 0] (by decide) rfl) hS (lv_sub hl [0, 1, 2, 3, 4] rfl)
        · have c6241 := k_eq (a := x5466.toInt) (b := (u6239.1 0).toInt) rfl rfl c6241
          refine lv_iconst (v := 0) hx hb dX12_fill_48 (by decide) ?_
          refine lv_goto (tgt := 66) hx hb dX12_fill_49 (by decide) ?_
          refine va_iast hx hb hKn.1 hP hD hS 0 0 rfl rfl (vp_in_iff.mpr ⟨by omega, by omega⟩) dX12_fill_66 (fun H locs hP hD hS => ?_)
          have hP : va_P g.1 vwCl [(a15, .inl (g.2 0, 2816, .inl (upd x5467 (z6238.toNatClampNeg) 0))), (h0, .inr (12, [.int mthrown, .ref a1, .ref a2, .ref a3, .ref a4, .int mtaped, .ref a6, .int msize, .int mat, .int mfrom, .int mtoken, .int mvalue, .int mfaultKind, .int mfaultPlace, .ref a14, .ref a15, .int p1, .int p3, .int p2, .ref a19, .ref a20, .int mleastOrder, .int mwordsMany, .ref a23, .ref a24, .ref a25, .ref a26, .ref a27, .ref a28])), (a1, .inl (g.2 0, 225, .inl mworld))] H := hP
          have hD : va_D A [(a15, .inl (g.2 0, 2816, .inl (upd x5467 (z6238.toNatClampNeg) 0))), (h0, .inr (12, [.int mthrown, .ref a1, .ref a2, .ref a3, .ref a4, .int mtaped, .ref a6, .int msize, .int mat, .int mfrom, .int mtoken, .int mvalue, .int mfaultKind, .int mfaultPlace, .ref a14, .ref a15, .int p1, .int p3, .int p2, .ref a19, .ref a20, .int mleastOrder, .int mwordsMany, .ref a23, .ref a24, .ref a25, .ref a26, .ref a27, .ref a28])), (a1, .inl (g.2 0, 225, .inl mworld))] := hD
          generalize (upd x5467 (z6238.toNatClampNeg) 0 : Nat → Int32) = f6247 at hP hD
          obtain ⟨z6248, e_z6248⟩ : ∃ y : Int32, y = x5466 + 1 := ⟨_, rfl⟩
          have t_z6248 : z6248.toInt = x5466.toInt + 1 := by rw [e_z6248]; exact addk (by decide) (by omega) (by omega)
          refine lv_iinc (v := z6248) (lv' := [(4, .int z6248), (0, .ref h0), (1, .int p1), (2, .int p2), (3, .int p3)]) hx hb dX12_fill_67 hl (k := 0) rfl (by rw [e_z6248]; rfl) (by decide) rfl (fun ls hl => ?_)
          refine lv_goto (tgt := 18) hx hb dX12_fill_70 (by decide) ?_
          exact ih5469 z6248 f6247 _ _ ls (by omega) (by omega) (hP.sub [1, 2, 0] rfl) (hD.sub [1, 2, 0] (by decide) rfl) hS (lv_sub hl [0, 1, 2, 3, 4] rfl)
  have kc1 : (1 : Int32).toInt = 1 := by decide
  exact lp5468 _ (1 : Int32) mbest _ _ ls (by decide) (Nat.lt_succ_self _) hP hD hS (lv_sub hl [0, 1, 2, 3, 4] rfl)
set_option maxRecDepth 100000 in
set_option maxHeartbeats 4000000 in
theorem k_X12_weekBy (l : Launch) (g : GG) (h0 : Nat) (a1 : Nat) (a2 : Nat) (a3 : Nat) (a4 : Nat) (a6 : Nat) (a14 : Nat) (a15 : Nat) (a19 : Nat) (a20 : Nat) (a23 : Nat) (a24 : Nat) (a25 : Nat) (a26 : Nat) (a27 : Nat) (a28 : Nat) (mthrown : Int32) (mtaped : Int32) (msize : Int32) (mat : Int32) (mfrom : Int32) (mtoken : Int32) (mvalue : Int32) (mfaultKind : Int32) (mfaultPlace : Int32) (mgoal : Int32) (mgoalDays : Int32) (mgoalHearer : Int32) (mleastOrder : Int32) (mwordsMany : Int32) (mworld : Nat → Int32) (mbest : Nat → Int32) (p1 : Int32) (p2 : Int32) (i_mtaped : 0 ≤ mtaped.toInt ∧ mtaped.toInt ≤ 900) (i_msize : 0 ≤ msize.toInt ∧ msize.toInt ≤ 900) (i_mat : 0 ≤ mat.toInt ∧ mat.toInt ≤ 900) (i_mfrom : 0 ≤ mfrom.toInt ∧ mfrom.toInt ≤ 900) (i_mtoken : 0 ≤ mtoken.toInt ∧ mtoken.toInt ≤ 4) (i_mvalue : 0 ≤ mvalue.toInt ∧ mvalue.toInt ≤ 99999) (i_mgoalHearer : 0 ≤ mgoalHearer.toInt ∧ mgoalHearer.toInt ≤ 3) (i_mwordsMany : 0 ≤ mwordsMany.toInt ∧ mwordsMany.toInt ≤ 10) (i_mworld : wod mworld) (i_p2 : 0 ≤ p2.toInt ∧ p2.toInt ≤ 3) (hd0 : 1 ≤ (mworld 0).toInt ∧ 1 ≤ (mworld 2).toInt) : Ct l g yX12_weekBy cX12_weekBy 4 (some .int) { frames := 7, cells := 0, slots := 0, locals := 170 } [.ref h0, .int p1, .int p2] [(h0, .inr (12, [.int mthrown, .ref a1, .ref a2, .ref a3, .ref a4, .int mtaped, .ref a6, .int msize, .int mat, .int mfrom, .int mtoken, .int mvalue, .int mfaultKind, .int mfaultPlace, .ref a14, .ref a15, .int mgoal, .int mgoalDays, .int mgoalHearer, .ref a19, .ref a20, .int mleastOrder, .int mwordsMany, .ref a23, .ref a24, .ref a25, .ref a26, .ref a27, .ref a28])), (a1, .inl (g.2 0, 225, .inl mworld)), (a15, .inl (g.2 0, 2816, .inl mbest))] (S := (Nat → Int32) × (Nat → Nat → Int32) × (Nat → Nat → Int64)) (fun u => some (.int (u.1 0))) (fun u => (0 ≤ (u.1 3).toInt ∧ (u.1 3).toInt ≤ 3)) (fun u => [(h0, .inr (12, [.int mthrown, .ref a1, .ref a2, .ref a3, .ref a4, .int mtaped, .ref a6, .int msize, .int mat, .int mfrom, .int mtoken, .int mvalue, .int mfaultKind, .int mfaultPlace, .ref a14, .ref a15, .int (u.1 1), .int (u.1 2), .int (u.1 3), .ref a19, .ref a20, .int mleastOrder, .int mwordsMany, .ref a23, .ref a24, .ref a25, .ref a26, .ref a27, .ref a28])), (a1, .inl (g.2 0, 225, .inl mworld)), (a15, .inl (g.2 0, 2816, .inl (u.2.1 0)))]) := by
  refine Ct.of (by decide) (Nat.le_of_ble_eq_true rfl) ?_
  intro p e s m below meth c A ls FX hP hD hS hl
  obtain ⟨FC, hr, hlk, hKn, hA, hnm, hZ⟩ := id FX
  have FC : CallFix p m c cX12_weekBy 4 s _ BIG RX12 := FC
  obtain ⟨hx, hb, hml, hown, hB⟩ := id FC
  have hl : lv_has ls 4 [(0, .ref h0), (1, .int p1), (2, .int p2)] := hl
  refine lv_aload_n hx hb dX12_weekBy_0 rfl (lv_at hl 0 rfl) ?_
  refine lv_iload_n hx hb dX12_weekBy_1 rfl (lv_at hl 1 rfl) ?_
  refine lv_iload_n hx hb dX12_weekBy_2 rfl (lv_at hl 2 rfl) ?_
  refine lv_aload_n hx hb dX12_weekBy_3 rfl (lv_at hl 0 rfl) ?_
  refine g_get (C := RX12) (T := TX12) (N := 29) (ci := 12) (v := .ref a1) FC hKn hP i_X12 0 rfl rfl 1 (by decide) b_801 rfl dX12_weekBy_4 ?_
  refine lv_iconst (v := 2) hx hb dX12_weekBy_7 (by decide) ?_
  refine va_iald hx hb hKn.1 hP 1 0 rfl rfl (by unfold vp_in; decide) dX12_weekBy_8 ?_
  have kc2 : (2 : Int32).toInt = 2 := by decide
  refine lv_topi (fun z1 e_z1 => ?_)
  have t_z1 : 0 ≤ z1.toInt ∧ z1.toInt ≤ 10 := by rw [e_z1]; exact wk_2 i_mworld.1
  have q_z1 : z1.toInt = (mworld 2).toInt := by rw [e_z1]; rfl
  refine call_V (As := [.int p1, .int p2, .int z1]) (rest := []) (wr := []) FC hKn hZ (k_X12_fill l g h0 a1 a2 a3 a4 a6 a14 a15 a19 a20 a23 a24 a25 a26 a27 a28 mthrown mtaped msize mat mfrom mtoken mvalue mfaultKind mfaultPlace mgoal mgoalDays mgoalHearer mleastOrder mwordsMany mworld mbest p1 p2 z1 (by omega) (by omega) (by omega) (by omega) (by omega) (by omega) (by omega) (by omega) i_mworld (by omega) (by omega) (by omega)) m_yX12_fill b_973 (ci := 12) rfl rfl rfl hP hD hS hA [0, 1, 2] [] rfl (by decide) rfl (by decide) (by decide) rfl hl.1 rfl (Nat.le_of_ble_eq_true rfl) dX12_weekBy_9 ⟨(Nat.le_of_ble_eq_true rfl), (Nat.le_of_ble_eq_true rfl)⟩ ⟨(Nat.le_of_ble_eq_true rfl), (Nat.le_of_ble_eq_true rfl)⟩ (fun u2 H locs q3 hP hD hS => ?_)
  have q3_0 : 0 ≤ (u2.1 3).toInt ∧ (u2.1 3).toInt ≤ 3 := q3
  have hP : va_P g.1 vwCl [(h0, .inr (12, [.int mthrown, .ref a1, .ref a2, .ref a3, .ref a4, .int mtaped, .ref a6, .int msize, .int mat, .int mfrom, .int mtoken, .int mvalue, .int mfaultKind, .int mfaultPlace, .ref a14, .ref a15, .int (u2.1 1), .int (u2.1 2), .int (u2.1 3), .ref a19, .ref a20, .int mleastOrder, .int mwordsMany, .ref a23, .ref a24, .ref a25, .ref a26, .ref a27, .ref a28])), (a1, .inl (g.2 0, 225, .inl mworld)), (a15, .inl (g.2 0, 2816, .inl (u2.2.1 0)))] H := hP
  have hD : va_D A [(h0, .inr (12, [.int mthrown, .ref a1, .ref a2, .ref a3, .ref a4, .int mtaped, .ref a6, .int msize, .int mat, .int mfrom, .int mtoken, .int mvalue, .int mfaultKind, .int mfaultPlace, .ref a14, .ref a15, .int (u2.1 1), .int (u2.1 2), .int (u2.1 3), .ref a19, .ref a20, .int mleastOrder, .int mwordsMany, .ref a23, .ref a24, .ref a25, .ref a26, .ref a27, .ref a28])), (a1, .inl (g.2 0, 225, .inl mworld)), (a15, .inl (g.2 0, 2816, .inl (u2.2.1 0)))] := hD
  refine W.eq (g2 := F0 m 12 ls []) rfl ?_
  refine lv_aload_n hx hb dX12_weekBy_12 rfl (lv_at hl 0 rfl) ?_
  refine g_get (C := RX12) (T := TX12) (N := 29) (ci := 12) (v := .ref a15) FC hKn hP i_X12 0 rfl rfl 15 (by decide) b_965 rfl dX12_weekBy_13 ?_
  refine lv_aload_n hx hb dX12_weekBy_16 rfl (lv_at hl 0 rfl) ?_
  refine call_V (As := []) (rest := [.ref a15]) (wr := [(a15, .inl (g.2 0, 2816, .inl (u2.2.1 0)))]) FC hKn hZ (k_X12_allStates l g h0 a1 a2 a3 a4 a6 a14 a15 a19 a20 a23 a24 a25 a26 a27 a28 mthrown mtaped msize mat mfrom mtoken mvalue mfaultKind mfaultPlace (u2.1 1) (u2.1 2) (u2.1 3) mleastOrder mwordsMany mworld (by omega) (by omega) (by omega) (by omega) (by omega) (by omega) (by omega) (by omega) i_mworld) m_yX12_allStates b_806 (ci := 12) rfl rfl rfl hP hD hS hA [0, 1] [2] rfl (by decide) rfl (by decide) (by decide) rfl hl.1 rfl (Nat.le_of_ble_eq_true rfl) dX12_weekBy_17 ⟨(Nat.le_of_ble_eq_true rfl), (Nat.le_of_ble_eq_true rfl)⟩ ⟨(Nat.le_of_ble_eq_true rfl), (Nat.le_of_ble_eq_true rfl)⟩ (fun u4 H locs q5 hP hD hS => ?_)
  obtain ⟨q5_0, q5_1, q5_2⟩ := q5
  have hP : va_P g.1 vwCl [(a15, .inl (g.2 0, 2816, .inl (u2.2.1 0))), (h0, .inr (12, [.int mthrown, .ref a1, .ref a2, .ref a3, .ref a4, .int mtaped, .ref a6, .int msize, .int mat, .int mfrom, .int mtoken, .int mvalue, .int mfaultKind, .int mfaultPlace, .ref a14, .ref a15, .int (u2.1 1), .int (u2.1 2), .int (u2.1 3), .ref a19, .ref a20, .int mleastOrder, .int mwordsMany, .ref a23, .ref a24, .ref a25, .ref a26, .ref a27, .ref a28])), (a1, .inl (g.2 0, 225, .inl mworld))] H := hP
  have hD : va_D A [(a15, .inl (g.2 0, 2816, .inl (u2.2.1 0))), (h0, .inr (12, [.int mthrown, .ref a1, .ref a2, .ref a3, .ref a4, .int mtaped, .ref a6, .int msize, .int mat, .int mfrom, .int mtoken, .int mvalue, .int mfaultKind, .int mfaultPlace, .ref a14, .ref a15, .int (u2.1 1), .int (u2.1 2), .int (u2.1 3), .ref a19, .ref a20, .int mleastOrder, .int mwordsMany, .ref a23, .ref a24, .ref a25, .ref a26, .ref a27, .ref a28])), (a1, .inl (g.2 0, 225, .inl mworld))] := hD
  refine W.eq (g2 := F0 m 20 ls [.int (u4.1 0), .ref a15]) rfl ?_
  rw [q5_1] at q5_0
  rw [q5_1] at q5_2
  refine tp_i (v := asF mworld) q5_1 ?_
  refine va_iald hx hb hKn.1 hP 0 0 rfl rfl (vp_in_iff.mpr ⟨by omega, by omega⟩) dX12_weekBy_20 ?_
  refine lv_topi (fun z6 e_z6 => ?_)
  refine lv_istore_n (lv' := [(3, .int z6), (0, .ref h0), (1, .int p1), (2, .int p2)]) hx hb dX12_weekBy_21 rfl hl (by decide) rfl (fun ls hl => ?_)
  refine lv_iload_n hx hb dX12_weekBy_22 rfl (lv_at hl 0 rfl) ?_
  refine lv_ldcw hx hb hown (hB _ b_966) dX12_weekBy_23 ?_
  refine lv_icmp_lt (tgt := 33) hx hb dX12_weekBy_26 (by decide) (fun c7 => ?_) (fun c7 => ?_)
  · have c7 := k_lt (a := z6.toInt) (b := 1000000000) rfl (by decide) c7
    refine lv_iload_n hx hb dX12_weekBy_33 rfl (lv_at hl 0 rfl) ?_
    exact rt_i FX ((fun k => match k with | 0 => z6 | 1 => u2.1 1 | 2 => u2.1 2 | 3 => u2.1 3 | _ => 0), (fun k => match k with | 0 => u2.2.1 0 | _ => fun _ => 0), (fun _ => fun _ => 0)) rfl (show 0 ≤ (u2.1 3).toInt ∧ (u2.1 3).toInt ≤ 3 by omega) (hP.sub [1, 2, 0] rfl) (hD.sub [1, 2, 0] (by decide) rfl) hS (Nat.le_of_ble_eq_true rfl) (Nat.le_of_ble_eq_true rfl) dX12_weekBy_34
  · have c7 := k_nlt (a := z6.toInt) (b := 1000000000) rfl (by decide) c7
    refine lv_iconst (v := -1) hx hb dX12_weekBy_29 (by decide) ?_
    refine lv_goto (tgt := 34) hx hb dX12_weekBy_30 (by decide) ?_
    exact rt_i FX ((fun k => match k with | 0 => (-1 : Int32) | 1 => u2.1 1 | 2 => u2.1 2 | 3 => u2.1 3 | _ => 0), (fun k => match k with | 0 => u2.2.1 0 | _ => fun _ => 0), (fun _ => fun _ => 0)) rfl (show 0 ≤ (u2.1 3).toInt ∧ (u2.1 3).toInt ≤ 3 by omega) (hP.sub [1, 2, 0] rfl) (hD.sub [1, 2, 0] (by decide) rfl) hS (Nat.le_of_ble_eq_true rfl) (Nat.le_of_ble_eq_true rfl) dX12_weekBy_34
set_option maxRecDepth 100000 in
set_option maxHeartbeats 4000000 in
theorem k_X12_wordBy (l : Launch) (g : GG) (h0 : Nat) (a1 : Nat) (a2 : Nat) (a3 : Nat) (a4 : Nat) (a6 : Nat) (a14 : Nat) (a15 : Nat) (a19 : Nat) (a20 : Nat) (a23 : Nat) (a24 : Nat) (a25 : Nat) (a26 : Nat) (a27 : Nat) (a28 : Nat) (mthrown : Int32) (mtaped : Int32) (msize : Int32) (mat : Int32) (mfrom : Int32) (mtoken : Int32) (mvalue : Int32) (mfaultKind : Int32) (mfaultPlace : Int32) (mgoal : Int32) (mgoalDays : Int32) (mgoalHearer : Int32) (mleastOrder : Int32) (mwordsMany : Int32) (mworld : Nat → Int32) (mbest : Nat → Int32) (p1 : Int32) (p2 : Int32) (p3 : Int32) (i_mtaped : 0 ≤ mtaped.toInt ∧ mtaped.toInt ≤ 900) (i_msize : 0 ≤ msize.toInt ∧ msize.toInt ≤ 900) (i_mat : 0 ≤ mat.toInt ∧ mat.toInt ≤ 900) (i_mfrom : 0 ≤ mfrom.toInt ∧ mfrom.toInt ≤ 900) (i_mtoken : 0 ≤ mtoken.toInt ∧ mtoken.toInt ≤ 4) (i_mvalue : 0 ≤ mvalue.toInt ∧ mvalue.toInt ≤ 99999) (i_mgoalHearer : 0 ≤ mgoalHearer.toInt ∧ mgoalHearer.toInt ≤ 3) (i_mwordsMany : 0 ≤ mwordsMany.toInt ∧ mwordsMany.toInt ≤ 10) (i_mworld : wod mworld) (i_p2 : 0 ≤ p2.toInt ∧ p2.toInt ≤ 3) (i_p3 : 0 ≤ p3.toInt ∧ p3.toInt ≤ 9) (hd0 : 1 ≤ (mworld 0).toInt ∧ 1 ≤ (mworld 2).toInt) : Ct l g yX12_wordBy cX12_wordBy 8 (some .int) { frames := 8, cells := 0, slots := 0, locals := 193 } [.ref h0, .int p1, .int p2, .int p3] [(h0, .inr (12, [.int mthrown, .ref a1, .ref a2, .ref a3, .ref a4, .int mtaped, .ref a6, .int msize, .int mat, .int mfrom, .int mtoken, .int mvalue, .int mfaultKind, .int mfaultPlace, .ref a14, .ref a15, .int mgoal, .int mgoalDays, .int mgoalHearer, .ref a19, .ref a20, .int mleastOrder, .int mwordsMany, .ref a23, .ref a24, .ref a25, .ref a26, .ref a27, .ref a28])), (a1, .inl (g.2 0, 225, .inl mworld)), (a15, .inl (g.2 0, 2816, .inl mbest))] (S := (Nat → Int32) × (Nat → Nat → Int32) × (Nat → Nat → Int64)) (fun u => some (.int (u.1 0))) (fun u => (-1 ≤ (u.1 0).toInt ∧ (u.1 0).toInt ≤ 8) ∧ (0 ≤ (u.1 3).toInt ∧ (u.1 3).toInt ≤ 3)) (fun u => [(h0, .inr (12, [.int mthrown, .ref a1, .ref a2, .ref a3, .ref a4, .int mtaped, .ref a6, .int msize, .int mat, .int mfrom, .int mtoken, .int mvalue, .int mfaultKind, .int mfaultPlace, .ref a14, .ref a15, .int (u.1 1), .int (u.1 2), .int (u.1 3), .ref a19, .ref a20, .int mleastOrder, .int mwordsMany, .ref a23, .ref a24, .ref a25, .ref a26, .ref a27, .ref a28])), (a1, .inl (g.2 0, 225, .inl mworld)), (a15, .inl (g.2 0, 2816, .inl (u.2.1 0)))]) := by
  refine Ct.of (by decide) (Nat.le_of_ble_eq_true rfl) ?_
  intro p e s m below meth c A ls FX hP hD hS hl
  obtain ⟨FC, hr, hlk, hKn, hA, hnm, hZ⟩ := id FX
  have FC : CallFix p m c cX12_wordBy 8 s _ BIG RX12 := FC
  obtain ⟨hx, hb, hml, hown, hB⟩ := id FC
  have hl : lv_has ls 8 [(0, .ref h0), (1, .int p1), (2, .int p2), (3, .int p3)] := hl
  refine lv_aload_n hx hb dX12_wordBy_0 rfl (lv_at hl 0 rfl) ?_
  refine lv_iload_n hx hb dX12_wordBy_1 rfl (lv_at hl 1 rfl) ?_
  refine lv_iload_n hx hb dX12_wordBy_2 rfl (lv_at hl 2 rfl) ?_
  refine call_V (As := [.int p1, .int p2]) (rest := []) (wr := []) FC hKn hZ (k_X12_weekBy l g h0 a1 a2 a3 a4 a6 a14 a15 a19 a20 a23 a24 a25 a26 a27 a28 mthrown mtaped msize mat mfrom mtoken mvalue mfaultKind mfaultPlace mgoal mgoalDays mgoalHearer mleastOrder mwordsMany mworld mbest p1 p2 (by omega) (by omega) (by omega) (by omega) (by omega) (by omega) (by omega) (by omega) i_mworld (by omega) (by omega)) m_yX12_weekBy b_974 (ci := 12) rfl rfl rfl hP hD hS hA [0, 1, 2] [] rfl (by decide) rfl (by decide) (by decide) rfl hl.1 rfl (Nat.le_of_ble_eq_true rfl) dX12_wordBy_3 ⟨(Nat.le_of_ble_eq_true rfl), (Nat.le_of_ble_eq_true rfl)⟩ ⟨(Nat.le_of_ble_eq_true rfl), (Nat.le_of_ble_eq_true rfl)⟩ (fun u1 H locs q2 hP hD hS => ?_)
  have q2_0 : 0 ≤ (u1.1 3).toInt ∧ (u1.1 3).toInt ≤ 3 := q2
  have hP : va_P g.1 vwCl [(h0, .inr (12, [.int mthrown, .ref a1, .ref a2, .ref a3, .ref a4, .int mtaped, .ref a6, .int msize, .int mat, .int mfrom, .int mtoken, .int mvalue, .int mfaultKind, .int mfaultPlace, .ref a14, .ref a15, .int (u1.1 1), .int (u1.1 2), .int (u1.1 3), .ref a19, .ref a20, .int mleastOrder, .int mwordsMany, .ref a23, .ref a24, .ref a25, .ref a26, .ref a27, .ref a28])), (a1, .inl (g.2 0, 225, .inl mworld)), (a15, .inl (g.2 0, 2816, .inl (u1.2.1 0)))] H := hP
  have hD : va_D A [(h0, .inr (12, [.int mthrown, .ref a1, .ref a2, .ref a3, .ref a4, .int mtaped, .ref a6, .int msize, .int mat, .int mfrom, .int mtoken, .int mvalue, .int mfaultKind, .int mfaultPlace, .ref a14, .ref a15, .int (u1.1 1), .int (u1.1 2), .int (u1.1 3), .ref a19, .ref a20, .int mleastOrder, .int mwordsMany, .ref a23, .ref a24, .ref a25, .ref a26, .ref a27, .ref a28])), (a1, .inl (g.2 0, 225, .inl mworld)), (a15, .inl (g.2 0, 2816, .inl (u1.2.1 0)))] := hD
  refine W.eq (g2 := F0 m 6 ls [.int (u1.1 0)]) rfl ?_
  refine lv_istore (lv' := [(4, .int (u1.1 0)), (0, .ref h0), (1, .int p1), (2, .int p2), (3, .int p3)]) hx hb dX12_wordBy_6 hl (by decide) rfl (fun ls hl => ?_)
  refine lv_iload hx hb dX12_wordBy_8 (lv_at hl 0 rfl) ?_
  refine lv_iconst (v := -1) hx hb dX12_wordBy_10 (by decide) ?_
  refine lv_icmp_ne (tgt := 16) hx hb dX12_wordBy_11 (by decide) (fun c3 => ?_) (fun c3 => ?_)
  · have c3 := k_ne (a := (u1.1 0).toInt) (b := -1) rfl (by decide) c3
    refine lv_iload_n hx hb dX12_wordBy_16 rfl (lv_at hl 2 rfl) ?_
    refine lv_iconst (v := 2) hx hb dX12_wordBy_17 (by decide) ?_
    refine lv_icmp_eq (tgt := 26) hx hb dX12_wordBy_18 (by decide) (fun c4 => ?_) (fun c4 => ?_)
    · have c4 := k_eq (a := p1.toInt) (b := 2) rfl (by decide) c4
      refine lv_iconst (v := 1) hx hb dX12_wordBy_26 (by decide) ?_
      refine lv_goto (tgt := 31) hx hb dX12_wordBy_27 (by decide) ?_
      refine lv_istore (lv' := [(5, .int 1), (4, .int (u1.1 0)), (0, .ref h0), (1, .int p1), (2, .int p2), (3, .int p3)]) hx hb dX12_wordBy_31 hl (by decide) rfl (fun ls hl => ?_)
      refine lv_aload_n hx hb dX12_wordBy_33 rfl (lv_at hl 2 rfl) ?_
      refine call_V (As := []) (rest := []) (wr := [(a15, .inl (g.2 0, 2816, .inl (u1.2.1 0)))]) FC hKn hZ (k_X12_allStates l g h0 a1 a2 a3 a4 a6 a14 a15 a19 a20 a23 a24 a25 a26 a27 a28 mthrown mtaped msize mat mfrom mtoken mvalue mfaultKind mfaultPlace (u1.1 1) (u1.1 2) (u1.1 3) mleastOrder mwordsMany mworld (by omega) (by omega) (by omega) (by omega) (by omega) (by omega) (by omega) (by omega) i_mworld) m_yX12_allStates b_806 (ci := 12) rfl rfl rfl hP hD hS hA [0, 1] [2] rfl (by decide) rfl (by decide) (by decide) rfl hl.1 rfl (Nat.le_of_ble_eq_true rfl) dX12_wordBy_34 ⟨(Nat.le_of_ble_eq_true rfl), (Nat.le_of_ble_eq_true rfl)⟩ ⟨(Nat.le_of_ble_eq_true rfl), (Nat.le_of_ble_eq_true rfl)⟩ (fun u5 H locs q6 hP hD hS => ?_)
      obtain ⟨q6_0, q6_1, q6_2⟩ := q6
      have hP : va_P g.1 vwCl [(a15, .inl (g.2 0, 2816, .inl (u1.2.1 0))), (h0, .inr (12, [.int mthrown, .ref a1, .ref a2, .ref a3, .ref a4, .int mtaped, .ref a6, .int msize, .int mat, .int mfrom, .int mtoken, .int mvalue, .int mfaultKind, .int mfaultPlace, .ref a14, .ref a15, .int (u1.1 1), .int (u1.1 2), .int (u1.1 3), .ref a19, .ref a20, .int mleastOrder, .int mwordsMany, .ref a23, .ref a24, .ref a25, .ref a26, .ref a27, .ref a28])), (a1, .inl (g.2 0, 225, .inl mworld))] H := hP
      have hD : va_D A [(a15, .inl (g.2 0, 2816, .inl (u1.2.1 0))), (h0, .inr (12, [.int mthrown, .ref a1, .ref a2, .ref a3, .ref a4, .int mtaped, .ref a6, .int msize, .int mat, .int mfrom, .int mtoken, .int mvalue, .int mfaultKind, .int mfaultPlace, .ref a14, .ref a15, .int (u1.1 1), .int (u1.1 2), .int (u1.1 3), .ref a19, .ref a20, .int mleastOrder, .int mwordsMany, .ref a23, .ref a24, .ref a25, .ref a26, .ref a27, .ref a28])), (a1, .inl (g.2 0, 225, .inl mworld))] := hD
      refine W.eq (g2 := F0 m 37 ls [.int (u5.1 0)]) rfl ?_
      rw [q6_1] at q6_0
      rw [q6_1] at q6_2
      refine tp_i (v := asF mworld) q6_1 ?_
      refine lv_istore (lv' := [(6, .int (asF mworld)), (5, .int 1), (4, .int (u1.1 0)), (0, .ref h0), (1, .int p1), (2, .int p2), (3, .int p3)]) hx hb dX12_wordBy_37 hl (by decide) rfl (fun ls hl => ?_)
      refine lv_iconst (v := 0) hx hb dX12_wordBy_39 (by decide) ?_
      refine lv_istore (lv' := [(7, .int 0), (6, .int (asF mworld)), (5, .int 1), (4, .int (u1.1 0)), (0, .ref h0), (1, .int p1), (2, .int p2), (3, .int p3)]) hx hb dX12_wordBy_40 hl (by decide) rfl (fun ls hl => ?_)
      have lp86 : ∀ (n88 : Nat) (x84 : Int32) (x85 : Int32) (H : Heap) (locs : List Loc) (ls : Array Slot), 0 ≤ x84.toInt ∧ x84.toInt ≤ 9 → 1 ≤ x85.toInt ∧ x85.toInt ≤ 255 → (9 - x84.toInt).toNat < n88 → va_P g.1 vwCl [(a15, .inl (g.2 0, 2816, .inl (u1.2.1 0))), (h0, .inr (12, [.int mthrown, .ref a1, .ref a2, .ref a3, .ref a4, .int mtaped, .ref a6, .int msize, .int mat, .int mfrom, .int mtoken, .int mvalue, .int mfaultKind, .int mfaultPlace, .ref a14, .ref a15, .int (u1.1 1), .int (u1.1 2), .int (u1.1 3), .ref a19, .ref a20, .int mleastOrder, .int mwordsMany, .ref a23, .ref a24, .ref a25, .ref a26, .ref a27, .ref a28])), (a1, .inl (g.2 0, 225, .inl mworld))] H → va_D A [(a15, .inl (g.2 0, 2816, .inl (u1.2.1 0))), (h0, .inr (12, [.int mthrown, .ref a1, .ref a2, .ref a3, .ref a4, .int mtaped, .ref a6, .int msize, .int mat, .int mfrom, .int mtoken, .int mvalue, .int mfaultKind, .int mfaultPlace, .ref a14, .ref a15, .int (u1.1 1), .int (u1.1 2), .int (u1.1 3), .ref a19, .ref a20, .int mleastOrder, .int mwordsMany, .ref a23, .ref a24, .ref a25, .ref a26, .ref a27, .ref a28])), (a1, .inl (g.2 0, 225, .inl mworld))] → va_S A s.heap H locs → lv_has ls 8 [(7, .int x84), (6, .int x85), (5, .int 1), (4, .int (u1.1 0)), (0, .ref h0), (1, .int p1), (2, .int p2), (3, .int p3)] → W p l e { frames := 8, cells := 0, slots := 0, locals := 193 } s m ([.ref h0, .int p1, .int p2, .int p3].toArray) below meth c H locs 0 0 (MQ below (QX (S := (Nat → Int32) × (Nat → Nat → Int32) × (Nat → Nat → Int64)) (fun u => some (.int (u.1 0))) (fun u => (-1 ≤ (u.1 0).toInt ∧ (u.1 0).toInt ≤ 8) ∧ (0 ≤ (u.1 3).toInt ∧ (u.1 3).toInt ≤ 3)) g (fun u => [(h0, .inr (12, [.int mthrown, .ref a1, .ref a2, .ref a3, .ref a4, .int mtaped, .ref a6, .int msize, .int mat, .int mfrom, .int mtoken, .int mvalue, .int mfaultKind, .int mfaultPlace, .ref a14, .ref a15, .int (u.1 1), .int (u.1 2), .int (u.1 3), .ref a19, .ref a20, .int mleastOrder, .int mwordsMany, .ref a23, .ref a24, .ref a25, .ref a26, .ref a27, .ref a28])), (a1, .inl (g.2 0, 225, .inl mworld)), (a15, .inl (g.2 0, 2816, .inl (u.2.1 0)))]) A) ([.ref h0, .int p1, .int p2, .int p3].toArray) s 0 0 A) (F0 m 42 ls []) := by
        intro n88
        induction n88 with
        | zero =>
          intro x84 x85 H locs ls h_x84 h_x85 hn89
          exact absurd hn89 (Nat.not_lt_zero _)
        | succ n88 ih87 =>
          intro x84 x85 H locs ls h_x84 h_x85 hn89 hP hD hS hl
          refine lv_iload hx hb dX12_wordBy_42 (lv_at hl 0 rfl) ?_
          refine lv_iload_n hx hb dX12_wordBy_44 rfl (lv_at hl 7 rfl) ?_
          refine lv_icmp_ge (tgt := 88) hx hb dX12_wordBy_45 (by decide) (fun c90 => ?_) (fun c90 => ?_)
          · have c90 := k_le (a := p3.toInt) (b := x84.toInt) rfl rfl c90
            refine lv_iload hx hb dX12_wordBy_88 (lv_at hl 2 rfl) ?_
            refine lv_if_eq (tgt := 105) hx hb dX12_wordBy_90 (by decide) (fun h => absurd h (by decide)) (fun _ => ?_)
            refine lv_aload_n hx hb dX12_wordBy_93 rfl (lv_at hl 4 rfl) ?_
            refine lv_iload_n hx hb dX12_wordBy_94 rfl (lv_at hl 7 rfl) ?_
            refine lv_iload hx hb dX12_wordBy_95 (lv_at hl 1 rfl) ?_
            refine lv_iload hx hb dX12_wordBy_97 (lv_at hl 3 rfl) ?_
            refine call_V (As := [.int p3, .int x85, .int (u1.1 0)]) (rest := []) (wr := []) FC hKn hZ (k_X12_wordWithin l g h0 a1 a2 a3 a4 a6 a14 a15 a19 a20 a23 a24 a25 a26 a27 a28 mthrown mtaped msize mat mfrom mtoken mvalue mfaultKind mfaultPlace (u1.1 1) (u1.1 2) (u1.1 3) mleastOrder mwordsMany mworld (u1.2.1 0) p3 x85 (u1.1 0) (by omega) (by omega) (by omega) (by omega) (by omega) (by omega) (by omega) (by omega) i_mworld (by omega) (by omega)) m_yX12_wordWithin b_975 (ci := 12) rfl rfl rfl hP hD hS hA [1, 2, 0] [] rfl (by decide) rfl (by decide) (by decide) rfl hl.1 rfl (Nat.le_of_ble_eq_true rfl) dX12_wordBy_99 ⟨(Nat.le_of_ble_eq_true rfl), (Nat.le_of_ble_eq_true rfl)⟩ ⟨(Nat.le_of_ble_eq_true rfl), (Nat.le_of_ble_eq_true rfl)⟩ (fun u91 H locs q92 hP hD hS => ?_)
            obtain ⟨q92_0, q92_1⟩ := q92
            have hP : va_P g.1 vwCl [(h0, .inr (12, [.int mthrown, .ref a1, .ref a2, .ref a3, .ref a4, .int mtaped, .ref a6, .int msize, .int mat, .int mfrom, .int mtoken, .int mvalue, .int mfaultKind, .int mfaultPlace, .ref a14, .ref a15, .int (u1.1 1), .int (u1.1 2), .int (u1.1 3), .ref a19, .ref a20, .int mleastOrder, .int mwordsMany, .ref a23, .ref a24, .ref a25, .ref a26, .ref a27, .ref a28])), (a1, .inl (g.2 0, 225, .inl mworld)), (a15, .inl (g.2 0, 2816, .inl (u1.2.1 0)))] H := hP
            have hD : va_D A [(h0, .inr (12, [.int mthrown, .ref a1, .ref a2, .ref a3, .ref a4, .int mtaped, .ref a6, .int msize, .int mat, .int mfrom, .int mtoken, .int mvalue, .int mfaultKind, .int mfaultPlace, .ref a14, .ref a15, .int (u1.1 1), .int (u1.1 2), .int (u1.1 3), .ref a19, .ref a20, .int mleastOrder, .int mwordsMany, .ref a23, .ref a24, .ref a25, .ref a26, .ref a27, .ref a28])), (a1, .inl (g.2 0, 225, .inl mworld)), (a15, .inl (g.2 0, 2816, .inl (u1.2.1 0)))] := hD
            refine W.eq (g2 := F0 m 102 ls [.int (u91.1 0)]) rfl ?_
            refine lv_goto (tgt := 112) hx hb dX12_wordBy_102 (by decide) ?_
            exact rt_i FX ((fun k => match k with | 0 => u91.1 0 | 1 => u1.1 1 | 2 => u1.1 2 | 3 => u1.1 3 | _ => 0), (fun k => match k with | 0 => u1.2.1 0 | _ => fun _ => 0), (fun _ => fun _ => 0)) rfl ⟨(show -1 ≤ (u91.1 0).toInt ∧ (u91.1 0).toInt ≤ 8 by omega), (show 0 ≤ (u1.1 3).toInt ∧ (u1.1 3).toInt ≤ 3 by omega)⟩ (hP.sub [0, 1, 2] rfl) (hD.sub [0, 1, 2] (by decide) rfl) hS (Nat.le_of_ble_eq_true rfl) (Nat.le_of_ble_eq_true rfl) dX12_wordBy_112
          · have c90 := k_nle (a := p3.toInt) (b := x84.toInt) rfl rfl c90
            refine lv_aload_n hx hb dX12_wordBy_48 rfl (lv_at hl 4 rfl) ?_
            refine lv_iload hx hb dX12_wordBy_49 (lv_at hl 1 rfl) ?_
            refine lv_iload hx hb dX12_wordBy_51 (lv_at hl 2 rfl) ?_
            refine lv_if_eq (tgt := 69) hx hb dX12_wordBy_53 (by decide) (fun h => absurd h (by decide)) (fun _ => ?_)
            refine lv_aload_n hx hb dX12_wordBy_56 rfl (lv_at hl 4 rfl) ?_
            refine lv_iload hx hb dX12_wordBy_57 (lv_at hl 0 rfl) ?_
            refine lv_iload hx hb dX12_wordBy_59 (lv_at hl 1 rfl) ?_
            refine lv_iload hx hb dX12_wordBy_61 (lv_at hl 3 rfl) ?_
            refine call_V (As := [.int x84, .int x85, .int (u1.1 0)]) (rest := [.int x85, .ref h0]) (wr := []) FC hKn hZ (k_X12_wordWithin l g h0 a1 a2 a3 a4 a6 a14 a15 a19 a20 a23 a24 a25 a26 a27 a28 mthrown mtaped msize mat mfrom mtoken mvalue mfaultKind mfaultPlace (u1.1 1) (u1.1 2) (u1.1 3) mleastOrder mwordsMany mworld (u1.2.1 0) x84 x85 (u1.1 0) (by omega) (by omega) (by omega) (by omega) (by omega) (by omega) (by omega) (by omega) i_mworld (by omega) (by omega)) m_yX12_wordWithin b_975 (ci := 12) rfl rfl rfl hP hD hS hA [1, 2, 0] [] rfl (by decide) rfl (by decide) (by decide) rfl hl.1 rfl (Nat.le_of_ble_eq_true rfl) dX12_wordBy_63 ⟨(Nat.le_of_ble_eq_true rfl), (Nat.le_of_ble_eq_true rfl)⟩ ⟨(Nat.le_of_ble_eq_true rfl), (Nat.le_of_ble_eq_true rfl)⟩ (fun u93 H locs q94 hP hD hS => ?_)
            obtain ⟨q94_0, q94_1⟩ := q94
            have hP : va_P g.1 vwCl [(h0, .inr (12, [.int mthrown, .ref a1, .ref a2, .ref a3, .ref a4, .int mtaped, .ref a6, .int msize, .int mat, .int mfrom, .int mtoken, .int mvalue, .int mfaultKind, .int mfaultPlace, .ref a14, .ref a15, .int (u1.1 1), .int (u1.1 2), .int (u1.1 3), .ref a19, .ref a20, .int mleastOrder, .int mwordsMany, .ref a23, .ref a24, .ref a25, .ref a26, .ref a27, .ref a28])), (a1, .inl (g.2 0, 225, .inl mworld)), (a15, .inl (g.2 0, 2816, .inl (u1.2.1 0)))] H := hP
            have hD : va_D A [(h0, .inr (12, [.int mthrown, .ref a1, .ref a2, .ref a3, .ref a4, .int mtaped, .ref a6, .int msize, .int mat, .int mfrom, .int mtoken, .int mvalue, .int mfaultKind, .int mfaultPlace, .ref a14, .ref a15, .int (u1.1 1), .int (u1.1 2), .int (u1.1 3), .ref a19, .ref a20, .int mleastOrder, .int mwordsMany, .ref a23, .ref a24, .ref a25, .ref a26, .ref a27, .ref a28])), (a1, .inl (g.2 0, 225, .inl mworld)), (a15, .inl (g.2 0, 2816, .inl (u1.2.1 0)))] := hD
            refine W.eq (g2 := F0 m 66 ls [.int (u93.1 0), .int x85, .ref h0]) rfl ?_
            refine lv_goto (tgt := 77) hx hb dX12_wordBy_66 (by decide) ?_
            refine call_V (As := [.int x85, .int (u93.1 0)]) (rest := []) (wr := [(a15, .inl (g.2 0, 2816, .inl (u1.2.1 0)))]) FC hKn hZ (k_X12_behindOf l g h0 a1 a2 a3 a4 a6 a14 a15 a19 a20 a23 a24 a25 a26 a27 a28 mthrown mtaped msize mat mfrom mtoken mvalue mfaultKind mfaultPlace (u1.1 1) (u1.1 2) (u1.1 3) mleastOrder mwordsMany mworld x85 (u93.1 0) (by omega) (by omega) (by omega) (by omega) (by omega) (by omega) (by omega) (by omega) i_mworld (by omega) (by omega) (by omega)) m_yX12_behindOf b_854 (ci := 12) rfl rfl rfl hP hD hS hA [0, 1] [2] rfl (by decide) rfl (by decide) (by decide) rfl hl.1 rfl (Nat.le_of_ble_eq_true rfl) dX12_wordBy_77 ⟨(Nat.le_of_ble_eq_true rfl), (Nat.le_of_ble_eq_true rfl)⟩ ⟨(Nat.le_of_ble_eq_true rfl), (Nat.le_of_ble_eq_true rfl)⟩ (fun u95 H locs q96 hP hD hS => ?_)
            have q96_0 : 1 ≤ (u95.1 0).toInt ∧ (u95.1 0).toInt ≤ 255 := q96
            have hP : va_P g.1 vwCl [(a15, .inl (g.2 0, 2816, .inl (u1.2.1 0))), (h0, .inr (12, [.int mthrown, .ref a1, .ref a2, .ref a3, .ref a4, .int mtaped, .ref a6, .int msize, .int mat, .int mfrom, .int mtoken, .int mvalue, .int mfaultKind, .int mfaultPlace, .ref a14, .ref a15, .int (u1.1 1), .int (u1.1 2), .int (u1.1 3), .ref a19, .ref a20, .int mleastOrder, .int mwordsMany, .ref a23, .ref a24, .ref a25, .ref a26, .ref a27, .ref a28])), (a1, .inl (g.2 0, 225, .inl mworld))] H := hP
            have hD : va_D A [(a15, .inl (g.2 0, 2816, .inl (u1.2.1 0))), (h0, .inr (12, [.int mthrown, .ref a1, .ref a2, .ref a3, .ref a4, .int mtaped, .ref a6, .int msize, .int mat, .int mfrom, .int mtoken, .int mvalue, .int mfaultKind, .int mfaultPlace, .ref a14, .ref a15, .int (u1.1 1), .int (u1.1 2), .int (u1.1 3), .ref a19, .ref a20, .int mleastOrder, .int mwordsMany, .ref a23, .ref a24, .ref a25, .ref a26, .ref a27, .ref a28])), (a1, .inl (g.2 0, 225, .inl mworld))] := hD
            refine W.eq (g2 := F0 m 80 ls [.int (u95.1 0)]) rfl ?_
            refine lv_istore (lv' := [(6, .int (u95.1 0)), (7, .int x84), (5, .int 1), (4, .int (u1.1 0)), (0, .ref h0), (1, .int p1), (2, .int p2), (3, .int p3)]) hx hb dX12_wordBy_80 hl (by decide) rfl (fun ls hl => ?_)
            obtain ⟨z97, e_z97⟩ : ∃ y : Int32, y = x84 + 1 := ⟨_, rfl⟩
            have t_z97 : z97.toInt = x84.toInt + 1 := by rw [e_z97]; exact addk (by decide) (by omega) (by omega)
            refine lv_iinc (v := z97) (lv' := [(7, .int z97), (6, .int (u95.1 0)), (5, .int 1), (4, .int (u1.1 0)), (0, .ref h0), (1, .int p1), (2, .int p2), (3, .int p3)]) hx hb dX12_wordBy_82 hl (k := 1) rfl (by rw [e_z97]; rfl) (by decide) rfl (fun ls hl => ?_)
            refine lv_goto (tgt := 42) hx hb dX12_wordBy_85 (by decide) ?_
            exact ih87 z97 (u95.1 0) _ _ ls (by omega) (by omega) (by omega) hP hD hS (lv_sub hl [0, 1, 2, 3, 4, 5, 6, 7] rfl)
      have kc0 : (0 : Int32).toInt = 0 := by decide
      exact lp86 _ (0 : Int32) (asF mworld) _ _ ls (by decide) (by omega) (Nat.lt_succ_self _) hP hD hS (lv_sub hl [0, 1, 2, 3, 4, 5, 6, 7] rfl)
    · have c4 := k_ne (a := p1.toInt) (b := 2) rfl (by decide) c4
      refine lv_iload_n hx hb dX12_wordBy_21 rfl (lv_at hl 2 rfl) ?_
      refine lv_iconst (v := 5) hx hb dX12_wordBy_22 (by decide) ?_
      refine lv_icmp_ne (tgt := 30) hx hb dX12_wordBy_23 (by decide) (fun c98 => ?_) (fun c98 => ?_)
      · have c98 := k_ne (a := p1.toInt) (b := 5) rfl (by decide) c98
        refine lv_iconst (v := 0) hx hb dX12_wordBy_30 (by decide) ?_
        refine lv_istore (lv' := [(5, .int 0), (4, .int (u1.1 0)), (0, .ref h0), (1, .int p1), (2, .int p2), (3, .int p3)]) hx hb dX12_wordBy_31 hl (by decide) rfl (fun ls hl => ?_)
        refine lv_aload_n hx hb dX12_wordBy_33 rfl (lv_at hl 2 rfl) ?_
        refine call_V (As := []) (rest := []) (wr := [(a15, .inl (g.2 0, 2816, .inl (u1.2.1 0)))]) FC hKn hZ (k_X12_allStates l g h0 a1 a2 a3 a4 a6 a14 a15 a19 a20 a23 a24 a25 a26 a27 a28 mthrown mtaped msize mat mfrom mtoken mvalue mfaultKind mfaultPlace (u1.1 1) (u1.1 2) (u1.1 3) mleastOrder mwordsMany mworld (by omega) (by omega) (by omega) (by omega) (by omega) (by omega) (by omega) (by omega) i_mworld) m_yX12_allStates b_806 (ci := 12) rfl rfl rfl hP hD hS hA [0, 1] [2] rfl (by decide) rfl (by decide) (by decide) rfl hl.1 rfl (Nat.le_of_ble_eq_true rfl) dX12_wordBy_34 ⟨(Nat.le_of_ble_eq_true rfl), (Nat.le_of_ble_eq_true rfl)⟩ ⟨(Nat.le_of_ble_eq_true rfl), (Nat.le_of_ble_eq_true rfl)⟩ (fun u99 H locs q100 hP hD hS => ?_)
        obtain ⟨q100_0, q100_1, q100_2⟩ := q100
        have hP : va_P g.1 vwCl [(a15, .inl (g.2 0, 2816, .inl (u1.2.1 0))), (h0, .inr (12, [.int mthrown, .ref a1, .ref a2, .ref a3, .ref a4, .int mtaped, .ref a6, .int msize, .int mat, .int mfrom, .int mtoken, .int mvalue, .int mfaultKind, .int mfaultPlace, .ref a14, .ref a15, .int (u1.1 1), .int (u1.1 2), .int (u1.1 3), .ref a19, .ref a20, .int mleastOrder, .int mwordsMany, .ref a23, .ref a24, .ref a25, .ref a26, .ref a27, .ref a28])), (a1, .inl (g.2 0, 225, .inl mworld))] H := hP
        have hD : va_D A [(a15, .inl (g.2 0, 2816, .inl (u1.2.1 0))), (h0, .inr (12, [.int mthrown, .ref a1, .ref a2, .ref a3, .ref a4, .int mtaped, .ref a6, .int msize, .int mat, .int mfrom, .int mtoken, .int mvalue, .int mfaultKind, .int mfaultPlace, .ref a14, .ref a15, .int (u1.1 1), .int (u1.1 2), .int (u1.1 3), .ref a19, .ref a20, .int mleastOrder, .int mwordsMany, .ref a23, .ref a24, .ref a25, .ref a26, .ref a27, .ref a28])), (a1, .inl (g.2 0, 225, .inl mworld))] := hD
        refine W.eq (g2 := F0 m 37 ls [.int (u99.1 0)]) rfl ?_
        rw [q100_1] at q100_0
        rw [q100_1] at q100_2
        refine tp_i (v := asF mworld) q100_1 ?_
        refine lv_istore (lv' := [(6, .int (asF mworld)), (5, .int 0), (4, .int (u1.1 0)), (0, .ref h0), (1, .int p1), (2, .int p2), (3, .int p3)]) hx hb dX12_wordBy_37 hl (by decide) rfl (fun ls hl => ?_)
        refine lv_iconst (v := 0) hx hb dX12_wordBy_39 (by decide) ?_
        refine lv_istore (lv' := [(7, .int 0), (6, .int (asF mworld)), (5, .int 0), (4, .int (u1.1 0)), (0, .ref h0), (1, .int p1), (2, .int p2), (3, .int p3)]) hx hb dX12_wordBy_40 hl (by decide) rfl (fun ls hl => ?_)
        have lp180 : ∀ (n182 : Nat) (x178 : Int32) (x179 : Int32) (H : Heap) (locs : List Loc) (ls : Array Slot), 0 ≤ x178.toInt ∧ x178.toInt ≤ 9 → 1 ≤ x179.toInt ∧ x179.toInt ≤ 255 → (9 - x178.toInt).toNat < n182 → va_P g.1 vwCl [(a15, .inl (g.2 0, 2816, .inl (u1.2.1 0))), (h0, .inr (12, [.int mthrown, .ref a1, .ref a2, .ref a3, .ref a4, .int mtaped, .ref a6, .int msize, .int mat, .int mfrom, .int mtoken, .int mvalue, .int mfaultKind, .int mfaultPlace, .ref a14, .ref a15, .int (u1.1 1), .int (u1.1 2), .int (u1.1 3), .ref a19, .ref a20, .int mleastOrder, .int mwordsMany, .ref a23, .ref a24, .ref a25, .ref a26, .ref a27, .ref a28])), (a1, .inl (g.2 0, 225, .inl mworld))] H → va_D A [(a15, .inl (g.2 0, 2816, .inl (u1.2.1 0))), (h0, .inr (12, [.int mthrown, .ref a1, .ref a2, .ref a3, .ref a4, .int mtaped, .ref a6, .int msize, .int mat, .int mfrom, .int mtoken, .int mvalue, .int mfaultKind, .int mfaultPlace, .ref a14, .ref a15, .int (u1.1 1), .int (u1.1 2), .int (u1.1 3), .ref a19, .ref a20, .int mleastOrder, .int mwordsMany, .ref a23, .ref a24, .ref a25, .ref a26, .ref a27, .ref a28])), (a1, .inl (g.2 0, 225, .inl mworld))] → va_S A s.heap H locs → lv_has ls 8 [(7, .int x178), (6, .int x179), (5, .int 0), (4, .int (u1.1 0)), (0, .ref h0), (1, .int p1), (2, .int p2), (3, .int p3)] → W p l e { frames := 8, cells := 0, slots := 0, locals := 193 } s m ([.ref h0, .int p1, .int p2, .int p3].toArray) below meth c H locs 0 0 (MQ below (QX (S := (Nat → Int32) × (Nat → Nat → Int32) × (Nat → Nat → Int64)) (fun u => some (.int (u.1 0))) (fun u => (-1 ≤ (u.1 0).toInt ∧ (u.1 0).toInt ≤ 8) ∧ (0 ≤ (u.1 3).toInt ∧ (u.1 3).toInt ≤ 3)) g (fun u => [(h0, .inr (12, [.int mthrown, .ref a1, .ref a2, .ref a3, .ref a4, .int mtaped, .ref a6, .int msize, .int mat, .int mfrom, .int mtoken, .int mvalue, .int mfaultKind, .int mfaultPlace, .ref a14, .ref a15, .int (u.1 1), .int (u.1 2), .int (u.1 3), .ref a19, .ref a20, .int mleastOrder, .int mwordsMany, .ref a23, .ref a24, .ref a25, .ref a26, .ref a27, .ref a28])), (a1, .inl (g.2 0, 225, .inl mworld)), (a15, .inl (g.2 0, 2816, .inl (u.2.1 0)))]) A) ([.ref h0, .int p1, .int p2, .int p3].toArray) s 0 0 A) (F0 m 42 ls []) := by
          intro n182
          induction n182 with
          | zero =>
            intro x178 x179 H locs ls h_x178 h_x179 hn183
            exact absurd hn183 (Nat.not_lt_zero _)
          | succ n182 ih181 =>
            intro x178 x179 H locs ls h_x178 h_x179 hn183 hP hD hS hl
            refine lv_iload hx hb dX12_wordBy_42 (lv_at hl 0 rfl) ?_
            refine lv_iload_n hx hb dX12_wordBy_44 rfl (lv_at hl 7 rfl) ?_
            refine lv_icmp_ge (tgt := 88) hx hb dX12_wordBy_45 (by decide) (fun c184 => ?_) (fun c184 => ?_)
            · have c184 := k_le (a := p3.toInt) (b := x178.toInt) rfl rfl c184
              refine lv_iload hx hb dX12_wordBy_88 (lv_at hl 2 rfl) ?_
              refine lv_if_eq (tgt := 105) hx hb dX12_wordBy_90 (by decide) (fun _ => ?_) (fun h => absurd h (by decide))
              refine lv_aload_n hx hb dX12_wordBy_105 rfl (lv_at hl 4 rfl) ?_
              refine lv_iload_n hx hb dX12_wordBy_106 rfl (lv_at hl 7 rfl) ?_
              refine lv_iload hx hb dX12_wordBy_107 (lv_at hl 1 rfl) ?_
              refine call_V (As := [.int p3, .int x179]) (rest := []) (wr := []) FC hKn hZ (k_X12_bestWord l g h0 a1 a2 a3 a4 a6 a14 a15 a19 a20 a23 a24 a25 a26 a27 a28 mthrown mtaped msize mat mfrom mtoken mvalue mfaultKind mfaultPlace (u1.1 1) (u1.1 2) (u1.1 3) mleastOrder mwordsMany mworld (u1.2.1 0) p3 x179 (by omega) (by omega) (by omega) (by omega) (by omega) (by omega) (by omega) (by omega) i_mworld (by omega) (by omega)) m_yX12_bestWord b_971 (ci := 12) rfl rfl rfl hP hD hS hA [1, 2, 0] [] rfl (by decide) rfl (by decide) (by decide) rfl hl.1 rfl (Nat.le_of_ble_eq_true rfl) dX12_wordBy_109 ⟨(Nat.le_of_ble_eq_true rfl), (Nat.le_of_ble_eq_true rfl)⟩ ⟨(Nat.le_of_ble_eq_true rfl), (Nat.le_of_ble_eq_true rfl)⟩ (fun u185 H locs q186 hP hD hS => ?_)
              obtain ⟨q186_0, q186_1⟩ := q186
              have hP : va_P g.1 vwCl [(h0, .inr (12, [.int mthrown, .ref a1, .ref a2, .ref a3, .ref a4, .int mtaped, .ref a6, .int msize, .int mat, .int mfrom, .int mtoken, .int mvalue, .int mfaultKind, .int mfaultPlace, .ref a14, .ref a15, .int (u1.1 1), .int (u1.1 2), .int (u1.1 3), .ref a19, .ref a20, .int mleastOrder, .int mwordsMany, .ref a23, .ref a24, .ref a25, .ref a26, .ref a27, .ref a28])), (a1, .inl (g.2 0, 225, .inl mworld)), (a15, .inl (g.2 0, 2816, .inl (u1.2.1 0)))] H := hP
              have hD : va_D A [(h0, .inr (12, [.int mthrown, .ref a1, .ref a2, .ref a3, .ref a4, .int mtaped, .ref a6, .int msize, .int mat, .int mfrom, .int mtoken, .int mvalue, .int mfaultKind, .int mfaultPlace, .ref a14, .ref a15, .int (u1.1 1), .int (u1.1 2), .int (u1.1 3), .ref a19, .ref a20, .int mleastOrder, .int mwordsMany, .ref a23, .ref a24, .ref a25, .ref a26, .ref a27, .ref a28])), (a1, .inl (g.2 0, 225, .inl mworld)), (a15, .inl (g.2 0, 2816, .inl (u1.2.1 0)))] := hD
              refine W.eq (g2 := F0 m 112 ls [.int (u185.1 0)]) rfl ?_
              exact rt_i FX ((fun k => match k with | 0 => u185.1 0 | 1 => u1.1 1 | 2 => u1.1 2 | 3 => u1.1 3 | _ => 0), (fun k => match k with | 0 => u1.2.1 0 | _ => fun _ => 0), (fun _ => fun _ => 0)) rfl ⟨(show -1 ≤ (u185.1 0).toInt ∧ (u185.1 0).toInt ≤ 8 by omega), (show 0 ≤ (u1.1 3).toInt ∧ (u1.1 3).toInt ≤ 3 by omega)⟩ (hP.sub [0, 1, 2] rfl) (hD.sub [0, 1, 2] (by decide) rfl) hS (Nat.le_of_ble_eq_true rfl) (Nat.le_of_ble_eq_true rfl) dX12_wordBy_112
            · have c184 := k_nle (a := p3.toInt) (b := x178.toInt) rfl rfl c184
              refine lv_aload_n hx hb dX12_wordBy_48 rfl (lv_at hl 4 rfl) ?_
              refine lv_iload hx hb dX12_wordBy_49 (lv_at hl 1 rfl) ?_
              refine lv_iload hx hb dX12_wordBy_51 (lv_at hl 2 rfl) ?_
              refine lv_if_eq (tgt := 69) hx hb dX12_wordBy_53 (by decide) (fun _ => ?_) (fun h => absurd h (by decide))
              refine lv_aload_n hx hb dX12_wordBy_69 rfl (lv_at hl 4 rfl) ?_
              refine lv_iload hx hb dX12_wordBy_70 (lv_at hl 0 rfl) ?_
              refine lv_iload hx hb dX12_wordBy_72 (lv_at hl 1 rfl) ?_
              refine call_V (As := [.int x178, .int x179]) (rest := [.int x179, .ref h0]) (wr := []) FC hKn hZ (k_X12_bestWord l g h0 a1 a2 a3 a4 a6 a14 a15 a19 a20 a23 a24 a25 a26 a27 a28 mthrown mtaped msize mat mfrom mtoken mvalue mfaultKind mfaultPlace (u1.1 1) (u1.1 2) (u1.1 3) mleastOrder mwordsMany mworld (u1.2.1 0) x178 x179 (by omega) (by omega) (by omega) (by omega) (by omega) (by omega) (by omega) (by omega) i_mworld (by omega) (by omega)) m_yX12_bestWord b_971 (ci := 12) rfl rfl rfl hP hD hS hA [1, 2, 0] [] rfl (by decide) rfl (by decide) (by decide) rfl hl.1 rfl (Nat.le_of_ble_eq_true rfl) dX12_wordBy_74 ⟨(Nat.le_of_ble_eq_true rfl), (Nat.le_of_ble_eq_true rfl)⟩ ⟨(Nat.le_of_ble_eq_true rfl), (Nat.le_of_ble_eq_true rfl)⟩ (fun u187 H locs q188 hP hD hS => ?_)
              obtain ⟨q188_0, q188_1⟩ := q188
              have hP : va_P g.1 vwCl [(h0, .inr (12, [.int mthrown, .ref a1, .ref a2, .ref a3, .ref a4, .int mtaped, .ref a6, .int msize, .int mat, .int mfrom, .int mtoken, .int mvalue, .int mfaultKind, .int mfaultPlace, .ref a14, .ref a15, .int (u1.1 1), .int (u1.1 2), .int (u1.1 3), .ref a19, .ref a20, .int mleastOrder, .int mwordsMany, .ref a23, .ref a24, .ref a25, .ref a26, .ref a27, .ref a28])), (a1, .inl (g.2 0, 225, .inl mworld)), (a15, .inl (g.2 0, 2816, .inl (u1.2.1 0)))] H := hP
              have hD : va_D A [(h0, .inr (12, [.int mthrown, .ref a1, .ref a2, .ref a3, .ref a4, .int mtaped, .ref a6, .int msize, .int mat, .int mfrom, .int mtoken, .int mvalue, .int mfaultKind, .int mfaultPlace, .ref a14, .ref a15, .int (u1.1 1), .int (u1.1 2), .int (u1.1 3), .ref a19, .ref a20, .int mleastOrder, .int mwordsMany, .ref a23, .ref a24, .ref a25, .ref a26, .ref a27, .ref a28])), (a1, .inl (g.2 0, 225, .inl mworld)), (a15, .inl (g.2 0, 2816, .inl (u1.2.1 0)))] := hD
              refine W.eq (g2 := F0 m 77 ls [.int (u187.1 0), .int x179, .ref h0]) rfl ?_
              refine call_V (As := [.int x179, .int (u187.1 0)]) (rest := []) (wr := [(a15, .inl (g.2 0, 2816, .inl (u1.2.1 0)))]) FC hKn hZ (k_X12_behindOf l g h0 a1 a2 a3 a4 a6 a14 a15 a19 a20 a23 a24 a25 a26 a27 a28 mthrown mtaped msize mat mfrom mtoken mvalue mfaultKind mfaultPlace (u1.1 1) (u1.1 2) (u1.1 3) mleastOrder mwordsMany mworld x179 (u187.1 0) (by omega) (by omega) (by omega) (by omega) (by omega) (by omega) (by omega) (by omega) i_mworld (by omega) (by omega) (by omega)) m_yX12_behindOf b_854 (ci := 12) rfl rfl rfl hP hD hS hA [0, 1] [2] rfl (by decide) rfl (by decide) (by decide) rfl hl.1 rfl (Nat.le_of_ble_eq_true rfl) dX12_wordBy_77 ⟨(Nat.le_of_ble_eq_true rfl), (Nat.le_of_ble_eq_true rfl)⟩ ⟨(Nat.le_of_ble_eq_true rfl), (Nat.le_of_ble_eq_true rfl)⟩ (fun u189 H locs q190 hP hD hS => ?_)
              have q190_0 : 1 ≤ (u189.1 0).toInt ∧ (u189.1 0).toInt ≤ 255 := q190
              have hP : va_P g.1 vwCl [(a15, .inl (g.2 0, 2816, .inl (u1.2.1 0))), (h0, .inr (12, [.int mthrown, .ref a1, .ref a2, .ref a3, .ref a4, .int mtaped, .ref a6, .int msize, .int mat, .int mfrom, .int mtoken, .int mvalue, .int mfaultKind, .int mfaultPlace, .ref a14, .ref a15, .int (u1.1 1), .int (u1.1 2), .int (u1.1 3), .ref a19, .ref a20, .int mleastOrder, .int mwordsMany, .ref a23, .ref a24, .ref a25, .ref a26, .ref a27, .ref a28])), (a1, .inl (g.2 0, 225, .inl mworld))] H := hP
              have hD : va_D A [(a15, .inl (g.2 0, 2816, .inl (u1.2.1 0))), (h0, .inr (12, [.int mthrown, .ref a1, .ref a2, .ref a3, .ref a4, .int mtaped, .ref a6, .int msize, .int mat, .int mfrom, .int mtoken, .int mvalue, .int mfaultKind, .int mfaultPlace, .ref a14, .ref a15, .int (u1.1 1), .int (u1.1 2), .int (u1.1 3), .ref a19, .ref a20, .int mleastOrder, .int mwordsMany, .ref a23, .ref a24, .ref a25, .ref a26, .ref a27, .ref a28])), (a1, .inl (g.2 0, 225, .inl mworld))] := hD
              refine W.eq (g2 := F0 m 80 ls [.int (u189.1 0)]) rfl ?_
              refine lv_istore (lv' := [(6, .int (u189.1 0)), (7, .int x178), (5, .int 0), (4, .int (u1.1 0)), (0, .ref h0), (1, .int p1), (2, .int p2), (3, .int p3)]) hx hb dX12_wordBy_80 hl (by decide) rfl (fun ls hl => ?_)
              obtain ⟨z191, e_z191⟩ : ∃ y : Int32, y = x178 + 1 := ⟨_, rfl⟩
              have t_z191 : z191.toInt = x178.toInt + 1 := by rw [e_z191]; exact addk (by decide) (by omega) (by omega)
              refine lv_iinc (v := z191) (lv' := [(7, .int z191), (6, .int (u189.1 0)), (5, .int 0), (4, .int (u1.1 0)), (0, .ref h0), (1, .int p1), (2, .int p2), (3, .int p3)]) hx hb dX12_wordBy_82 hl (k := 1) rfl (by rw [e_z191]; rfl) (by decide) rfl (fun ls hl => ?_)
              refine lv_goto (tgt := 42) hx hb dX12_wordBy_85 (by decide) ?_
              exact ih181 z191 (u189.1 0) _ _ ls (by omega) (by omega) (by omega) hP hD hS (lv_sub hl [0, 1, 2, 3, 4, 5, 6, 7] rfl)
        have kc0 : (0 : Int32).toInt = 0 := by decide
        exact lp180 _ (0 : Int32) (asF mworld) _ _ ls (by decide) (by omega) (Nat.lt_succ_self _) hP hD hS (lv_sub hl [0, 1, 2, 3, 4, 5, 6, 7] rfl)
      · have c98 := k_eq (a := p1.toInt) (b := 5) rfl (by decide) c98
        refine lv_iconst (v := 1) hx hb dX12_wordBy_26 (by decide) ?_
        refine lv_goto (tgt := 31) hx hb dX12_wordBy_27 (by decide) ?_
        refine lv_istore (lv' := [(5, .int 1), (4, .int (u1.1 0)), (0, .ref h0), (1, .int p1), (2, .int p2), (3, .int p3)]) hx hb dX12_wordBy_31 hl (by decide) rfl (fun ls hl => ?_)
        refine lv_aload_n hx hb dX12_wordBy_33 rfl (lv_at hl 2 rfl) ?_
        refine call_V (As := []) (rest := []) (wr := [(a15, .inl (g.2 0, 2816, .inl (u1.2.1 0)))]) FC hKn hZ (k_X12_allStates l g h0 a1 a2 a3 a4 a6 a14 a15 a19 a20 a23 a24 a25 a26 a27 a28 mthrown mtaped msize mat mfrom mtoken mvalue mfaultKind mfaultPlace (u1.1 1) (u1.1 2) (u1.1 3) mleastOrder mwordsMany mworld (by omega) (by omega) (by omega) (by omega) (by omega) (by omega) (by omega) (by omega) i_mworld) m_yX12_allStates b_806 (ci := 12) rfl rfl rfl hP hD hS hA [0, 1] [2] rfl (by decide) rfl (by decide) (by decide) rfl hl.1 rfl (Nat.le_of_ble_eq_true rfl) dX12_wordBy_34 ⟨(Nat.le_of_ble_eq_true rfl), (Nat.le_of_ble_eq_true rfl)⟩ ⟨(Nat.le_of_ble_eq_true rfl), (Nat.le_of_ble_eq_true rfl)⟩ (fun u192 H locs q193 hP hD hS => ?_)
        obtain ⟨q193_0, q193_1, q193_2⟩ := q193
        have hP : va_P g.1 vwCl [(a15, .inl (g.2 0, 2816, .inl (u1.2.1 0))), (h0, .inr (12, [.int mthrown, .ref a1, .ref a2, .ref a3, .ref a4, .int mtaped, .ref a6, .int msize, .int mat, .int mfrom, .int mtoken, .int mvalue, .int mfaultKind, .int mfaultPlace, .ref a14, .ref a15, .int (u1.1 1), .int (u1.1 2), .int (u1.1 3), .ref a19, .ref a20, .int mleastOrder, .int mwordsMany, .ref a23, .ref a24, .ref a25, .ref a26, .ref a27, .ref a28])), (a1, .inl (g.2 0, 225, .inl mworld))] H := hP
        have hD : va_D A [(a15, .inl (g.2 0, 2816, .inl (u1.2.1 0))), (h0, .inr (12, [.int mthrown, .ref a1, .ref a2, .ref a3, .ref a4, .int mtaped, .ref a6, .int msize, .int mat, .int mfrom, .int mtoken, .int mvalue, .int mfaultKind, .int mfaultPlace, .ref a14, .ref a15, .int (u1.1 1), .int (u1.1 2), .int (u1.1 3), .ref a19, .ref a20, .int mleastOrder, .int mwordsMany, .ref a23, .ref a24, .ref a25, .ref a26, .ref a27, .ref a28])), (a1, .inl (g.2 0, 225, .inl mworld))] := hD
        refine W.eq (g2 := F0 m 37 ls [.int (u192.1 0)]) rfl ?_
        rw [q193_1] at q193_0
        rw [q193_1] at q193_2
        refine tp_i (v := asF mworld) q193_1 ?_
        refine lv_istore (lv' := [(6, .int (asF mworld)), (5, .int 1), (4, .int (u1.1 0)), (0, .ref h0), (1, .int p1), (2, .int p2), (3, .int p3)]) hx hb dX12_wordBy_37 hl (by decide) rfl (fun ls hl => ?_)
        refine lv_iconst (v := 0) hx hb dX12_wordBy_39 (by decide) ?_
        refine lv_istore (lv' := [(7, .int 0), (6, .int (asF mworld)), (5, .int 1), (4, .int (u1.1 0)), (0, .ref h0), (1, .int p1), (2, .int p2), (3, .int p3)]) hx hb dX12_wordBy_40 hl (by decide) rfl (fun ls hl => ?_)
        have lp273 : ∀ (n275 : Nat) (x271 : Int32) (x272 : Int32) (H : Heap) (locs : List Loc) (ls : Array Slot), 0 ≤ x271.toInt ∧ x271.toInt ≤ 9 → 1 ≤ x272.toInt ∧ x272.toInt ≤ 255 → (9 - x271.toInt).toNat < n275 → va_P g.1 vwCl [(a15, .inl (g.2 0, 2816, .inl (u1.2.1 0))), (h0, .inr (12, [.int mthrown, .ref a1, .ref a2, .ref a3, .ref a4, .int mtaped, .ref a6, .int msize, .int mat, .int mfrom, .int mtoken, .int mvalue, .int mfaultKind, .int mfaultPlace, .ref a14, .ref a15, .int (u1.1 1), .int (u1.1 2), .int (u1.1 3), .ref a19, .ref a20, .int mleastOrder, .int mwordsMany, .ref a23, .ref a24, .ref a25, .ref a26, .ref a27, .ref a28])), (a1, .inl (g.2 0, 225, .inl mworld))] H → va_D A [(a15, .inl (g.2 0, 2816, .inl (u1.2.1 0))), (h0, .inr (12, [.int mthrown, .ref a1, .ref a2, .ref a3, .ref a4, .int mtaped, .ref a6, .int msize, .int mat, .int mfrom, .int mtoken, .int mvalue, .int mfaultKind, .int mfaultPlace, .ref a14, .ref a15, .int (u1.1 1), .int (u1.1 2), .int (u1.1 3), .ref a19, .ref a20, .int mleastOrder, .int mwordsMany, .ref a23, .ref a24, .ref a25, .ref a26, .ref a27, .ref a28])), (a1, .inl (g.2 0, 225, .inl mworld))] → va_S A s.heap H locs → lv_has ls 8 [(7, .int x271), (6, .int x272), (5, .int 1), (4, .int (u1.1 0)), (0, .ref h0), (1, .int p1), (2, .int p2), (3, .int p3)] → W p l e { frames := 8, cells := 0, slots := 0, locals := 193 } s m ([.ref h0, .int p1, .int p2, .int p3].toArray) below meth c H locs 0 0 (MQ below (QX (S := (Nat → Int32) × (Nat → Nat → Int32) × (Nat → Nat → Int64)) (fun u => some (.int (u.1 0))) (fun u => (-1 ≤ (u.1 0).toInt ∧ (u.1 0).toInt ≤ 8) ∧ (0 ≤ (u.1 3).toInt ∧ (u.1 3).toInt ≤ 3)) g (fun u => [(h0, .inr (12, [.int mthrown, .ref a1, .ref a2, .ref a3, .ref a4, .int mtaped, .ref a6, .int msize, .int mat, .int mfrom, .int mtoken, .int mvalue, .int mfaultKind, .int mfaultPlace, .ref a14, .ref a15, .int (u.1 1), .int (u.1 2), .int (u.1 3), .ref a19, .ref a20, .int mleastOrder, .int mwordsMany, .ref a23, .ref a24, .ref a25, .ref a26, .ref a27, .ref a28])), (a1, .inl (g.2 0, 225, .inl mworld)), (a15, .inl (g.2 0, 2816, .inl (u.2.1 0)))]) A) ([.ref h0, .int p1, .int p2, .int p3].toArray) s 0 0 A) (F0 m 42 ls []) := by
          intro n275
          induction n275 with
          | zero =>
            intro x271 x272 H locs ls h_x271 h_x272 hn276
            exact absurd hn276 (Nat.not_lt_zero _)
          | succ n275 ih274 =>
            intro x271 x272 H locs ls h_x271 h_x272 hn276 hP hD hS hl
            refine lv_iload hx hb dX12_wordBy_42 (lv_at hl 0 rfl) ?_
            refine lv_iload_n hx hb dX12_wordBy_44 rfl (lv_at hl 7 rfl) ?_
            refine lv_icmp_ge (tgt := 88) hx hb dX12_wordBy_45 (by decide) (fun c277 => ?_) (fun c277 => ?_)
            · have c277 := k_le (a := p3.toInt) (b := x271.toInt) rfl rfl c277
              refine lv_iload hx hb dX12_wordBy_88 (lv_at hl 2 rfl) ?_
              refine lv_if_eq (tgt := 105) hx hb dX12_wordBy_90 (by decide) (fun h => absurd h (by decide)) (fun _ => ?_)
              refine lv_aload_n hx hb dX12_wordBy_93 rfl (lv_at hl 4 rfl) ?_
              refine lv_iload_n hx hb dX12_wordBy_94 rfl (lv_at hl 7 rfl) ?_
              refine lv_iload hx hb dX12_wordBy_95 (lv_at hl 1 rfl) ?_
              refine lv_iload hx hb dX12_wordBy_97 (lv_at hl 3 rfl) ?_
              refine call_V (As := [.int p3, .int x272, .int (u1.1 0)]) (rest := []) (wr := []) FC hKn hZ (k_X12_wordWithin l g h0 a1 a2 a3 a4 a6 a14 a15 a19 a20 a23 a24 a25 a26 a27 a28 mthrown mtaped msize mat mfrom mtoken mvalue mfaultKind mfaultPlace (u1.1 1) (u1.1 2) (u1.1 3) mleastOrder mwordsMany mworld (u1.2.1 0) p3 x272 (u1.1 0) (by omega) (by omega) (by omega) (by omega) (by omega) (by omega) (by omega) (by omega) i_mworld (by omega) (by omega)) m_yX12_wordWithin b_975 (ci := 12) rfl rfl rfl hP hD hS hA [1, 2, 0] [] rfl (by decide) rfl (by decide) (by decide) rfl hl.1 rfl (Nat.le_of_ble_eq_true rfl) dX12_wordBy_99 ⟨(Nat.le_of_ble_eq_true rfl), (Nat.le_of_ble_eq_true rfl)⟩ ⟨(Nat.le_of_ble_eq_true rfl), (Nat.le_of_ble_eq_true rfl)⟩ (fun u278 H locs q279 hP hD hS => ?_)
              obtain ⟨q279_0, q279_1⟩ := q279
              have hP : va_P g.1 vwCl [(h0, .inr (12, [.int mthrown, .ref a1, .ref a2, .ref a3, .ref a4, .int mtaped, .ref a6, .int msize, .int mat, .int mfrom, .int mtoken, .int mvalue, .int mfaultKind, .int mfaultPlace, .ref a14, .ref a15, .int (u1.1 1), .int (u1.1 2), .int (u1.1 3), .ref a19, .ref a20, .int mleastOrder, .int mwordsMany, .ref a23, .ref a24, .ref a25, .ref a26, .ref a27, .ref a28])), (a1, .inl (g.2 0, 225, .inl mworld)), (a15, .inl (g.2 0, 2816, .inl (u1.2.1 0)))] H := hP
              have hD : va_D A [(h0, .inr (12, [.int mthrown, .ref a1, .ref a2, .ref a3, .ref a4, .int mtaped, .ref a6, .int msize, .int mat, .int mfrom, .int mtoken, .int mvalue, .int mfaultKind, .int mfaultPlace, .ref a14, .ref a15, .int (u1.1 1), .int (u1.1 2), .int (u1.1 3), .ref a19, .ref a20, .int mleastOrder, .int mwordsMany, .ref a23, .ref a24, .ref a25, .ref a26, .ref a27, .ref a28])), (a1, .inl (g.2 0, 225, .inl mworld)), (a15, .inl (g.2 0, 2816, .inl (u1.2.1 0)))] := hD
              refine W.eq (g2 := F0 m 102 ls [.int (u278.1 0)]) rfl ?_
              refine lv_goto (tgt := 112) hx hb dX12_wordBy_102 (by decide) ?_
              exact rt_i FX ((fun k => match k with | 0 => u278.1 0 | 1 => u1.1 1 | 2 => u1.1 2 | 3 => u1.1 3 | _ => 0), (fun k => match k with | 0 => u1.2.1 0 | _ => fun _ => 0), (fun _ => fun _ => 0)) rfl ⟨(show -1 ≤ (u278.1 0).toInt ∧ (u278.1 0).toInt ≤ 8 by omega), (show 0 ≤ (u1.1 3).toInt ∧ (u1.1 3).toInt ≤ 3 by omega)⟩ (hP.sub [0, 1, 2] rfl) (hD.sub [0, 1, 2] (by decide) rfl) hS (Nat.le_of_ble_eq_true rfl) (Nat.le_of_ble_eq_true rfl) dX12_wordBy_112
            · have c277 := k_nle (a := p3.toInt) (b := x271.toInt) rfl rfl c277
              refine lv_aload_n hx hb dX12_wordBy_48 rfl (lv_at hl 4 rfl) ?_
              refine lv_iload hx hb dX12_wordBy_49 (lv_at hl 1 rfl) ?_
              refine lv_iload hx hb dX12_wordBy_51 (lv_at hl 2 rfl) ?_
              refine lv_if_eq (tgt := 69) hx hb dX12_wordBy_53 (by decide) (fun h => absurd h (by decide)) (fun _ => ?_)
              refine lv_aload_n hx hb dX12_wordBy_56 rfl (lv_at hl 4 rfl) ?_
              refine lv_iload hx hb dX12_wordBy_57 (lv_at hl 0 rfl) ?_
              refine lv_iload hx hb dX12_wordBy_59 (lv_at hl 1 rfl) ?_
              refine lv_iload hx hb dX12_wordBy_61 (lv_at hl 3 rfl) ?_
              refine call_V (As := [.int x271, .int x272, .int (u1.1 0)]) (rest := [.int x272, .ref h0]) (wr := []) FC hKn hZ (k_X12_wordWithin l g h0 a1 a2 a3 a4 a6 a14 a15 a19 a20 a23 a24 a25 a26 a27 a28 mthrown mtaped msize mat mfrom mtoken mvalue mfaultKind mfaultPlace (u1.1 1) (u1.1 2) (u1.1 3) mleastOrder mwordsMany mworld (u1.2.1 0) x271 x272 (u1.1 0) (by omega) (by omega) (by omega) (by omega) (by omega) (by omega) (by omega) (by omega) i_mworld (by omega) (by omega)) m_yX12_wordWithin b_975 (ci := 12) rfl rfl rfl hP hD hS hA [1, 2, 0] [] rfl (by decide) rfl (by decide) (by decide) rfl hl.1 rfl (Nat.le_of_ble_eq_true rfl) dX12_wordBy_63 ⟨(Nat.le_of_ble_eq_true rfl), (Nat.le_of_ble_eq_true rfl)⟩ ⟨(Nat.le_of_ble_eq_true rfl), (Nat.le_of_ble_eq_true rfl)⟩ (fun u280 H locs q281 hP hD hS => ?_)
              obtain ⟨q281_0, q281_1⟩ := q281
              have hP : va_P g.1 vwCl [(h0, .inr (12, [.int mthrown, .ref a1, .ref a2, .ref a3, .ref a4, .int mtaped, .ref a6, .int msize, .int mat, .int mfrom, .int mtoken, .int mvalue, .int mfaultKind, .int mfaultPlace, .ref a14, .ref a15, .int (u1.1 1), .int (u1.1 2), .int (u1.1 3), .ref a19, .ref a20, .int mleastOrder, .int mwordsMany, .ref a23, .ref a24, .ref a25, .ref a26, .ref a27, .ref a28])), (a1, .inl (g.2 0, 225, .inl mworld)), (a15, .inl (g.2 0, 2816, .inl (u1.2.1 0)))] H := hP
              have hD : va_D A [(h0, .inr (12, [.int mthrown, .ref a1, .ref a2, .ref a3, .ref a4, .int mtaped, .ref a6, .int msize, .int mat, .int mfrom, .int mtoken, .int mvalue, .int mfaultKind, .int mfaultPlace, .ref a14, .ref a15, .int (u1.1 1), .int (u1.1 2), .int (u1.1 3), .ref a19, .ref a20, .int mleastOrder, .int mwordsMany, .ref a23, .ref a24, .ref a25, .ref a26, .ref a27, .ref a28])), (a1, .inl (g.2 0, 225, .inl mworld)), (a15, .inl (g.2 0, 2816, .inl (u1.2.1 0)))] := hD
              refine W.eq (g2 := F0 m 66 ls [.int (u280.1 0), .int x272, .ref h0]) rfl ?_
              refine lv_goto (tgt := 77) hx hb dX12_wordBy_66 (by decide) ?_
              refine call_V (As := [.int x272, .int (u280.1 0)]) (rest := []) (wr := [(a15, .inl (g.2 0, 2816, .inl (u1.2.1 0)))]) FC hKn hZ (k_X12_behindOf l g h0 a1 a2 a3 a4 a6 a14 a15 a19 a20 a23 a24 a25 a26 a27 a28 mthrown mtaped msize mat mfrom mtoken mvalue mfaultKind mfaultPlace (u1.1 1) (u1.1 2) (u1.1 3) mleastOrder mwordsMany mworld x272 (u280.1 0) (by omega) (by omega) (by omega) (by omega) (by omega) (by omega) (by omega) (by omega) i_mworld (by omega) (by omega) (by omega)) m_yX12_behindOf b_854 (ci := 12) rfl rfl rfl hP hD hS hA [0, 1] [2] rfl (by decide) rfl (by decide) (by decide) rfl hl.1 rfl (Nat.le_of_ble_eq_true rfl) dX12_wordBy_77 ⟨(Nat.le_of_ble_eq_true rfl), (Nat.le_of_ble_eq_true rfl)⟩ ⟨(Nat.le_of_ble_eq_true rfl), (Nat.le_of_ble_eq_true rfl)⟩ (fun u282 H locs q283 hP hD hS => ?_)
              have q283_0 : 1 ≤ (u282.1 0).toInt ∧ (u282.1 0).toInt ≤ 255 := q283
              have hP : va_P g.1 vwCl [(a15, .inl (g.2 0, 2816, .inl (u1.2.1 0))), (h0, .inr (12, [.int mthrown, .ref a1, .ref a2, .ref a3, .ref a4, .int mtaped, .ref a6, .int msize, .int mat, .int mfrom, .int mtoken, .int mvalue, .int mfaultKind, .int mfaultPlace, .ref a14, .ref a15, .int (u1.1 1), .int (u1.1 2), .int (u1.1 3), .ref a19, .ref a20, .int mleastOrder, .int mwordsMany, .ref a23, .ref a24, .ref a25, .ref a26, .ref a27, .ref a28])), (a1, .inl (g.2 0, 225, .inl mworld))] H := hP
              have hD : va_D A [(a15, .inl (g.2 0, 2816, .inl (u1.2.1 0))), (h0, .inr (12, [.int mthrown, .ref a1, .ref a2, .ref a3, .ref a4, .int mtaped, .ref a6, .int msize, .int mat, .int mfrom, .int mtoken, .int mvalue, .int mfaultKind, .int mfaultPlace, .ref a14, .ref a15, .int (u1.1 1), .int (u1.1 2), .int (u1.1 3), .ref a19, .ref a20, .int mleastOrder, .int mwordsMany, .ref a23, .ref a24, .ref a25, .ref a26, .ref a27, .ref a28])), (a1, .inl (g.2 0, 225, .inl mworld))] := hD
              refine W.eq (g2 := F0 m 80 ls [.int (u282.1 0)]) rfl ?_
              refine lv_istore (lv' := [(6, .int (u282.1 0)), (7, .int x271), (5, .int 1), (4, .int (u1.1 0)), (0, .ref h0), (1, .int p1), (2, .int p2), (3, .int p3)]) hx hb dX12_wordBy_80 hl (by decide) rfl (fun ls hl => ?_)
              obtain ⟨z284, e_z284⟩ : ∃ y : Int32, y = x271 + 1 := ⟨_, rfl⟩
              have t_z284 : z284.toInt = x271.toInt + 1 := by rw [e_z284]; exact addk (by decide) (by omega) (by omega)
              refine lv_iinc (v := z284) (lv' := [(7, .int z284), (6, .int (u282.1 0)), (5, .int 1), (4, .int (u1.1 0)), (0, .ref h0), (1, .int p1), (2, .int p2), (3, .int p3)]) hx hb dX12_wordBy_82 hl (k := 1) rfl (by rw [e_z284]; rfl) (by decide) rfl (fun ls hl => ?_)
              refine lv_goto (tgt := 42) hx hb dX12_wordBy_85 (by decide) ?_
              exact ih274 z284 (u282.1 0) _ _ ls (by omega) (by omega) (by omega) hP hD hS (lv_sub hl [0, 1, 2, 3, 4, 5, 6, 7] rfl)
        have kc0 : (0 : Int32).toInt = 0 := by decide
        exact lp273 _ (0 : Int32) (asF mworld) _ _ ls (by decide) (by omega) (Nat.lt_succ_self _) hP hD hS (lv_sub hl [0, 1, 2, 3, 4, 5, 6, 7] rfl)
  · have c3 := k_eq (a := (u1.1 0).toInt) (b := -1) rfl (by decide) c3
    refine lv_iconst (v := -1) hx hb dX12_wordBy_14 (by decide) ?_
    exact rt_i FX ((fun k => match k with | 0 => (-1 : Int32) | 1 => u1.1 1 | 2 => u1.1 2 | 3 => u1.1 3 | _ => 0), (fun k => match k with | 0 => u1.2.1 0 | _ => fun _ => 0), (fun _ => fun _ => 0)) rfl ⟨(show -1 ≤ ((-1 : Int32)).toInt ∧ ((-1 : Int32)).toInt ≤ 8 by decide), (show 0 ≤ (u1.1 3).toInt ∧ (u1.1 3).toInt ≤ 3 by omega)⟩ (hP.sub [0, 1, 2] rfl) (hD.sub [0, 1, 2] (by decide) rfl) hS (Nat.le_of_ble_eq_true rfl) (Nat.le_of_ble_eq_true rfl) dX12_wordBy_15
set_option maxRecDepth 100000 in
set_option maxHeartbeats 4000000 in
theorem k_X12_least (l : Launch) (g : GG) (h0 : Nat) (a1 : Nat) (a2 : Nat) (a3 : Nat) (a4 : Nat) (a6 : Nat) (a14 : Nat) (a15 : Nat) (a19 : Nat) (a20 : Nat) (a23 : Nat) (a24 : Nat) (a25 : Nat) (a26 : Nat) (a27 : Nat) (a28 : Nat) (mthrown : Int32) (mtaped : Int32) (msize : Int32) (mat : Int32) (mfrom : Int32) (mtoken : Int32) (mvalue : Int32) (mfaultKind : Int32) (mfaultPlace : Int32) (mgoal : Int32) (mgoalDays : Int32) (mgoalHearer : Int32) (mleastOrder : Int32) (mwordsMany : Int32) (mworld : Nat → Int32) (mbest : Nat → Int32) (p1 : Int32) (i_mtaped : 0 ≤ mtaped.toInt ∧ mtaped.toInt ≤ 900) (i_msize : 0 ≤ msize.toInt ∧ msize.toInt ≤ 900) (i_mat : 0 ≤ mat.toInt ∧ mat.toInt ≤ 900) (i_mfrom : 0 ≤ mfrom.toInt ∧ mfrom.toInt ≤ 900) (i_mtoken : 0 ≤ mtoken.toInt ∧ mtoken.toInt ≤ 4) (i_mvalue : 0 ≤ mvalue.toInt ∧ mvalue.toInt ≤ 99999) (i_mgoalHearer : 0 ≤ mgoalHearer.toInt ∧ mgoalHearer.toInt ≤ 3) (i_mwordsMany : 0 ≤ mwordsMany.toInt ∧ mwordsMany.toInt ≤ 10) (i_mworld : wod mworld) : Ct l g yX12_least cX12_least 2 (some .int) { frames := 8, cells := 0, slots := 0, locals := 193 } [.ref h0, .int p1] [(h0, .inr (12, [.int mthrown, .ref a1, .ref a2, .ref a3, .ref a4, .int mtaped, .ref a6, .int msize, .int mat, .int mfrom, .int mtoken, .int mvalue, .int mfaultKind, .int mfaultPlace, .ref a14, .ref a15, .int mgoal, .int mgoalDays, .int mgoalHearer, .ref a19, .ref a20, .int mleastOrder, .int mwordsMany, .ref a23, .ref a24, .ref a25, .ref a26, .ref a27, .ref a28])), (a1, .inl (g.2 0, 225, .inl mworld)), (a15, .inl (g.2 0, 2816, .inl mbest))] (S := (Nat → Int32) × (Nat → Nat → Int32) × (Nat → Nat → Int64)) (fun u => some (.int (u.1 0))) (fun u => (0 ≤ (u.1 3).toInt ∧ (u.1 3).toInt ≤ 3)) (fun u => [(h0, .inr (12, [.int mthrown, .ref a1, .ref a2, .ref a3, .ref a4, .int mtaped, .ref a6, .int msize, .int mat, .int mfrom, .int mtoken, .int mvalue, .int mfaultKind, .int mfaultPlace, .ref a14, .ref a15, .int (u.1 1), .int (u.1 2), .int (u.1 3), .ref a19, .ref a20, .int mleastOrder, .int mwordsMany, .ref a23, .ref a24, .ref a25, .ref a26, .ref a27, .ref a28])), (a1, .inl (g.2 0, 225, .inl mworld)), (a15, .inl (g.2 0, 2816, .inl (u.2.1 0)))]) := by
  refine Ct.of (by decide) (Nat.le_of_ble_eq_true rfl) ?_
  intro p e s m below meth c A ls FX hP hD hS hl
  obtain ⟨FC, hr, hlk, hKn, hA, hnm, hZ⟩ := id FX
  have FC : CallFix p m c cX12_least 2 s _ BIG RX12 := FC
  obtain ⟨hx, hb, hml, hown, hB⟩ := id FC
  have hl : lv_has ls 2 [(0, .ref h0), (1, .int p1)] := hl
  refine lv_aload_n hx hb dX12_least_0 rfl (lv_at hl 0 rfl) ?_
  refine lv_iload_n hx hb dX12_least_1 rfl (lv_at hl 1 rfl) ?_
  refine call_V (As := [.int p1]) (rest := []) (wr := [(a15, .inl (g.2 0, 2816, .inl mbest))]) FC hKn hZ (k_X12_isHearer l g h0 a1 a2 a3 a4 a6 a14 a15 a19 a20 a23 a24 a25 a26 a27 a28 mthrown mtaped msize mat mfrom mtoken mvalue mfaultKind mfaultPlace mgoal mgoalDays mgoalHearer mleastOrder mwordsMany mworld p1 (by omega) (by omega) (by omega) (by omega) (by omega) (by omega) (by omega) (by omega) i_mworld) m_yX12_isHearer b_881 (ci := 12) rfl rfl rfl hP hD hS hA [0, 1] [2] rfl (by decide) rfl (by decide) (by decide) rfl hl.1 rfl (Nat.le_of_ble_eq_true rfl) dX12_least_2 ⟨(Nat.le_of_ble_eq_true rfl), (Nat.le_of_ble_eq_true rfl)⟩ ⟨(Nat.le_of_ble_eq_true rfl), (Nat.le_of_ble_eq_true rfl)⟩ (fun u1 H locs q2 hP hD hS => ?_)
  obtain ⟨q2_0, q2_1⟩ := q2
  have hP : va_P g.1 vwCl [(a15, .inl (g.2 0, 2816, .inl mbest)), (h0, .inr (12, [.int mthrown, .ref a1, .ref a2, .ref a3, .ref a4, .int mtaped, .ref a6, .int msize, .int mat, .int mfrom, .int mtoken, .int mvalue, .int mfaultKind, .int mfaultPlace, .ref a14, .ref a15, .int mgoal, .int mgoalDays, .int mgoalHearer, .ref a19, .ref a20, .int mleastOrder, .int mwordsMany, .ref a23, .ref a24, .ref a25, .ref a26, .ref a27, .ref a28])), (a1, .inl (g.2 0, 225, .inl mworld))] H := hP
  have hD : va_D A [(a15, .inl (g.2 0, 2816, .inl mbest)), (h0, .inr (12, [.int mthrown, .ref a1, .ref a2, .ref a3, .ref a4, .int mtaped, .ref a6, .int msize, .int mat, .int mfrom, .int mtoken, .int mvalue, .int mfaultKind, .int mfaultPlace, .ref a14, .ref a15, .int mgoal, .int mgoalDays, .int mgoalHearer, .ref a19, .ref a20, .int mleastOrder, .int mwordsMany, .ref a23, .ref a24, .ref a25, .ref a26, .ref a27, .ref a28])), (a1, .inl (g.2 0, 225, .inl mworld))] := hD
  refine W.eq (g2 := F0 m 5 ls [.int (u1.1 0)]) rfl ?_
  rcases (show (u1.1 0).toInt = 0 ∨ (u1.1 0).toInt = 1 by omega) with c3 | c3
  · skip
    refine lv_if_eq (tgt := 17) hx hb dX12_least_5 (by decide) (fun c4 => ?_) (fun c4 => ?_)
    · have c4 := k_eq (a := (u1.1 0).toInt) (b := 0) rfl (by decide) c4
      refine lv_bipush (v := -2) hx hb dX12_least_17 (by decide) ?_
      exact rt_i FX ((fun k => match k with | 0 => (-2 : Int32) | 1 => mgoal | 2 => mgoalDays | 3 => mgoalHearer | _ => 0), (fun k => match k with | 0 => mbest | _ => fun _ => 0), (fun _ => fun _ => 0)) rfl (show 0 ≤ mgoalHearer.toInt ∧ mgoalHearer.toInt ≤ 3 by omega) (hP.sub [1, 2, 0] rfl) (hD.sub [1, 2, 0] (by decide) rfl) hS (Nat.le_of_ble_eq_true rfl) (Nat.le_of_ble_eq_true rfl) dX12_least_19
    · have c4 := k_ne (a := (u1.1 0).toInt) (b := 0) rfl (by decide) c4
      exfalso; omega
  · have c3_r := q2_1 c3
    refine lv_if_eq (tgt := 17) hx hb dX12_least_5 (by decide) (fun c5 => ?_) (fun c5 => ?_)
    · have c5 := k_eq (a := (u1.1 0).toInt) (b := 0) rfl (by decide) c5
      exfalso; omega
    · have c5 := k_ne (a := (u1.1 0).toInt) (b := 0) rfl (by decide) c5
      refine lv_aload_n hx hb dX12_least_8 rfl (lv_at hl 0 rfl) ?_
      refine lv_iconst (v := 0) hx hb dX12_least_9 (by decide) ?_
      refine lv_iload_n hx hb dX12_least_10 rfl (lv_at hl 1 rfl) ?_
      have kc0 : (0 : Int32).toInt = 0 := by decide
      refine call_V (As := [.int 0, .int p1]) (rest := []) (wr := []) FC hKn hZ (k_X12_weekBy l g h0 a1 a2 a3 a4 a6 a14 a15 a19 a20 a23 a24 a25 a26 a27 a28 mthrown mtaped msize mat mfrom mtoken mvalue mfaultKind mfaultPlace mgoal mgoalDays mgoalHearer mleastOrder mwordsMany mworld mbest ((0 : Int32)) p1 (by omega) (by omega) (by omega) (by omega) (by omega) (by omega) (by omega) (by omega) i_mworld (by omega) (by omega)) m_yX12_weekBy b_974 (ci := 12) rfl rfl rfl hP hD hS hA [1, 2, 0] [] rfl (by decide) rfl (by decide) (by decide) rfl hl.1 rfl (Nat.le_of_ble_eq_true rfl) dX12_least_11 ⟨(Nat.le_of_ble_eq_true rfl), (Nat.le_of_ble_eq_true rfl)⟩ ⟨(Nat.le_of_ble_eq_true rfl), (Nat.le_of_ble_eq_true rfl)⟩ (fun u6 H locs q7 hP hD hS => ?_)
      have q7_0 : 0 ≤ (u6.1 3).toInt ∧ (u6.1 3).toInt ≤ 3 := q7
      have hP : va_P g.1 vwCl [(h0, .inr (12, [.int mthrown, .ref a1, .ref a2, .ref a3, .ref a4, .int mtaped, .ref a6, .int msize, .int mat, .int mfrom, .int mtoken, .int mvalue, .int mfaultKind, .int mfaultPlace, .ref a14, .ref a15, .int (u6.1 1), .int (u6.1 2), .int (u6.1 3), .ref a19, .ref a20, .int mleastOrder, .int mwordsMany, .ref a23, .ref a24, .ref a25, .ref a26, .ref a27, .ref a28])), (a1, .inl (g.2 0, 225, .inl mworld)), (a15, .inl (g.2 0, 2816, .inl (u6.2.1 0)))] H := hP
      have hD : va_D A [(h0, .inr (12, [.int mthrown, .ref a1, .ref a2, .ref a3, .ref a4, .int mtaped, .ref a6, .int msize, .int mat, .int mfrom, .int mtoken, .int mvalue, .int mfaultKind, .int mfaultPlace, .ref a14, .ref a15, .int (u6.1 1), .int (u6.1 2), .int (u6.1 3), .ref a19, .ref a20, .int mleastOrder, .int mwordsMany, .ref a23, .ref a24, .ref a25, .ref a26, .ref a27, .ref a28])), (a1, .inl (g.2 0, 225, .inl mworld)), (a15, .inl (g.2 0, 2816, .inl (u6.2.1 0)))] := hD
      refine W.eq (g2 := F0 m 14 ls [.int (u6.1 0)]) rfl ?_
      refine lv_goto (tgt := 19) hx hb dX12_least_14 (by decide) ?_
      exact rt_i FX ((fun k => match k with | 0 => u6.1 0 | 1 => u6.1 1 | 2 => u6.1 2 | 3 => u6.1 3 | _ => 0), (fun k => match k with | 0 => u6.2.1 0 | _ => fun _ => 0), (fun _ => fun _ => 0)) rfl (show 0 ≤ (u6.1 3).toInt ∧ (u6.1 3).toInt ≤ 3 by omega) (hP.sub [0, 1, 2] rfl) (hD.sub [0, 1, 2] (by decide) rfl) hS (Nat.le_of_ble_eq_true rfl) (Nat.le_of_ble_eq_true rfl) dX12_least_19
set_option maxRecDepth 100000 in
set_option maxHeartbeats 4000000 in
theorem k_X12_truly (l : Launch) (g : GG) (h0 : Nat) (a1 : Nat) (a2 : Nat) (a3 : Nat) (a4 : Nat) (a6 : Nat) (a14 : Nat) (a15 : Nat) (a19 : Nat) (a20 : Nat) (a23 : Nat) (a24 : Nat) (a25 : Nat) (a26 : Nat) (a27 : Nat) (a28 : Nat) (mthrown : Int32) (mtaped : Int32) (msize : Int32) (mat : Int32) (mfrom : Int32) (mtoken : Int32) (mvalue : Int32) (mfaultKind : Int32) (mfaultPlace : Int32) (mgoal : Int32) (mgoalDays : Int32) (mgoalHearer : Int32) (mleastOrder : Int32) (mwordsMany : Int32) (mworld : Nat → Int32) (mbest : Nat → Int32) (p1 : Int32) (i_mtaped : 0 ≤ mtaped.toInt ∧ mtaped.toInt ≤ 900) (i_msize : 0 ≤ msize.toInt ∧ msize.toInt ≤ 900) (i_mat : 0 ≤ mat.toInt ∧ mat.toInt ≤ 900) (i_mfrom : 0 ≤ mfrom.toInt ∧ mfrom.toInt ≤ 900) (i_mtoken : 0 ≤ mtoken.toInt ∧ mtoken.toInt ≤ 4) (i_mvalue : 0 ≤ mvalue.toInt ∧ mvalue.toInt ≤ 99999) (i_mgoalHearer : 0 ≤ mgoalHearer.toInt ∧ mgoalHearer.toInt ≤ 3) (i_mwordsMany : 0 ≤ mwordsMany.toInt ∧ mwordsMany.toInt ≤ 10) (i_mworld : wod mworld) : Ct l g yX12_truly cX12_truly 2 (some .int) { frames := 8, cells := 0, slots := 0, locals := 193 } [.ref h0, .int p1] [(h0, .inr (12, [.int mthrown, .ref a1, .ref a2, .ref a3, .ref a4, .int mtaped, .ref a6, .int msize, .int mat, .int mfrom, .int mtoken, .int mvalue, .int mfaultKind, .int mfaultPlace, .ref a14, .ref a15, .int mgoal, .int mgoalDays, .int mgoalHearer, .ref a19, .ref a20, .int mleastOrder, .int mwordsMany, .ref a23, .ref a24, .ref a25, .ref a26, .ref a27, .ref a28])), (a1, .inl (g.2 0, 225, .inl mworld)), (a15, .inl (g.2 0, 2816, .inl mbest))] (S := (Nat → Int32) × (Nat → Nat → Int32) × (Nat → Nat → Int64)) (fun u => some (.int (u.1 0))) (fun u => (0 ≤ (u.1 3).toInt ∧ (u.1 3).toInt ≤ 3)) (fun u => [(h0, .inr (12, [.int mthrown, .ref a1, .ref a2, .ref a3, .ref a4, .int mtaped, .ref a6, .int msize, .int mat, .int mfrom, .int mtoken, .int mvalue, .int mfaultKind, .int mfaultPlace, .ref a14, .ref a15, .int (u.1 1), .int (u.1 2), .int (u.1 3), .ref a19, .ref a20, .int mleastOrder, .int mwordsMany, .ref a23, .ref a24, .ref a25, .ref a26, .ref a27, .ref a28])), (a1, .inl (g.2 0, 225, .inl mworld)), (a15, .inl (g.2 0, 2816, .inl (u.2.1 0)))]) := by
  refine Ct.of (by decide) (Nat.le_of_ble_eq_true rfl) ?_
  intro p e s m below meth c A ls FX hP hD hS hl
  obtain ⟨FC, hr, hlk, hKn, hA, hnm, hZ⟩ := id FX
  have FC : CallFix p m c cX12_truly 2 s _ BIG RX12 := FC
  obtain ⟨hx, hb, hml, hown, hB⟩ := id FC
  have hl : lv_has ls 2 [(0, .ref h0), (1, .int p1)] := hl
  refine lv_aload_n hx hb dX12_truly_0 rfl (lv_at hl 0 rfl) ?_
  refine lv_iload_n hx hb dX12_truly_1 rfl (lv_at hl 1 rfl) ?_
  refine call_V (As := [.int p1]) (rest := []) (wr := [(a15, .inl (g.2 0, 2816, .inl mbest))]) FC hKn hZ (k_X12_isHearer l g h0 a1 a2 a3 a4 a6 a14 a15 a19 a20 a23 a24 a25 a26 a27 a28 mthrown mtaped msize mat mfrom mtoken mvalue mfaultKind mfaultPlace mgoal mgoalDays mgoalHearer mleastOrder mwordsMany mworld p1 (by omega) (by omega) (by omega) (by omega) (by omega) (by omega) (by omega) (by omega) i_mworld) m_yX12_isHearer b_881 (ci := 12) rfl rfl rfl hP hD hS hA [0, 1] [2] rfl (by decide) rfl (by decide) (by decide) rfl hl.1 rfl (Nat.le_of_ble_eq_true rfl) dX12_truly_2 ⟨(Nat.le_of_ble_eq_true rfl), (Nat.le_of_ble_eq_true rfl)⟩ ⟨(Nat.le_of_ble_eq_true rfl), (Nat.le_of_ble_eq_true rfl)⟩ (fun u1 H locs q2 hP hD hS => ?_)
  obtain ⟨q2_0, q2_1⟩ := q2
  have hP : va_P g.1 vwCl [(a15, .inl (g.2 0, 2816, .inl mbest)), (h0, .inr (12, [.int mthrown, .ref a1, .ref a2, .ref a3, .ref a4, .int mtaped, .ref a6, .int msize, .int mat, .int mfrom, .int mtoken, .int mvalue, .int mfaultKind, .int mfaultPlace, .ref a14, .ref a15, .int mgoal, .int mgoalDays, .int mgoalHearer, .ref a19, .ref a20, .int mleastOrder, .int mwordsMany, .ref a23, .ref a24, .ref a25, .ref a26, .ref a27, .ref a28])), (a1, .inl (g.2 0, 225, .inl mworld))] H := hP
  have hD : va_D A [(a15, .inl (g.2 0, 2816, .inl mbest)), (h0, .inr (12, [.int mthrown, .ref a1, .ref a2, .ref a3, .ref a4, .int mtaped, .ref a6, .int msize, .int mat, .int mfrom, .int mtoken, .int mvalue, .int mfaultKind, .int mfaultPlace, .ref a14, .ref a15, .int mgoal, .int mgoalDays, .int mgoalHearer, .ref a19, .ref a20, .int mleastOrder, .int mwordsMany, .ref a23, .ref a24, .ref a25, .ref a26, .ref a27, .ref a28])), (a1, .inl (g.2 0, 225, .inl mworld))] := hD
  refine W.eq (g2 := F0 m 5 ls [.int (u1.1 0)]) rfl ?_
  rcases (show (u1.1 0).toInt = 0 ∨ (u1.1 0).toInt = 1 by omega) with c3 | c3
  · skip
    refine lv_if_eq (tgt := 17) hx hb dX12_truly_5 (by decide) (fun c4 => ?_) (fun c4 => ?_)
    · have c4 := k_eq (a := (u1.1 0).toInt) (b := 0) rfl (by decide) c4
      refine lv_bipush (v := -2) hx hb dX12_truly_17 (by decide) ?_
      exact rt_i FX ((fun k => match k with | 0 => (-2 : Int32) | 1 => mgoal | 2 => mgoalDays | 3 => mgoalHearer | _ => 0), (fun k => match k with | 0 => mbest | _ => fun _ => 0), (fun _ => fun _ => 0)) rfl (show 0 ≤ mgoalHearer.toInt ∧ mgoalHearer.toInt ≤ 3 by omega) (hP.sub [1, 2, 0] rfl) (hD.sub [1, 2, 0] (by decide) rfl) hS (Nat.le_of_ble_eq_true rfl) (Nat.le_of_ble_eq_true rfl) dX12_truly_19
    · have c4 := k_ne (a := (u1.1 0).toInt) (b := 0) rfl (by decide) c4
      exfalso; omega
  · have c3_r := q2_1 c3
    refine lv_if_eq (tgt := 17) hx hb dX12_truly_5 (by decide) (fun c5 => ?_) (fun c5 => ?_)
    · have c5 := k_eq (a := (u1.1 0).toInt) (b := 0) rfl (by decide) c5
      exfalso; omega
    · have c5 := k_ne (a := (u1.1 0).toInt) (b := 0) rfl (by decide) c5
      refine lv_aload_n hx hb dX12_truly_8 rfl (lv_at hl 0 rfl) ?_
      refine lv_iconst (v := 1) hx hb dX12_truly_9 (by decide) ?_
      refine lv_iload_n hx hb dX12_truly_10 rfl (lv_at hl 1 rfl) ?_
      have kc1 : (1 : Int32).toInt = 1 := by decide
      refine call_V (As := [.int 1, .int p1]) (rest := []) (wr := []) FC hKn hZ (k_X12_weekBy l g h0 a1 a2 a3 a4 a6 a14 a15 a19 a20 a23 a24 a25 a26 a27 a28 mthrown mtaped msize mat mfrom mtoken mvalue mfaultKind mfaultPlace mgoal mgoalDays mgoalHearer mleastOrder mwordsMany mworld mbest ((1 : Int32)) p1 (by omega) (by omega) (by omega) (by omega) (by omega) (by omega) (by omega) (by omega) i_mworld (by omega) (by omega)) m_yX12_weekBy b_974 (ci := 12) rfl rfl rfl hP hD hS hA [1, 2, 0] [] rfl (by decide) rfl (by decide) (by decide) rfl hl.1 rfl (Nat.le_of_ble_eq_true rfl) dX12_truly_11 ⟨(Nat.le_of_ble_eq_true rfl), (Nat.le_of_ble_eq_true rfl)⟩ ⟨(Nat.le_of_ble_eq_true rfl), (Nat.le_of_ble_eq_true rfl)⟩ (fun u6 H locs q7 hP hD hS => ?_)
      have q7_0 : 0 ≤ (u6.1 3).toInt ∧ (u6.1 3).toInt ≤ 3 := q7
      have hP : va_P g.1 vwCl [(h0, .inr (12, [.int mthrown, .ref a1, .ref a2, .ref a3, .ref a4, .int mtaped, .ref a6, .int msize, .int mat, .int mfrom, .int mtoken, .int mvalue, .int mfaultKind, .int mfaultPlace, .ref a14, .ref a15, .int (u6.1 1), .int (u6.1 2), .int (u6.1 3), .ref a19, .ref a20, .int mleastOrder, .int mwordsMany, .ref a23, .ref a24, .ref a25, .ref a26, .ref a27, .ref a28])), (a1, .inl (g.2 0, 225, .inl mworld)), (a15, .inl (g.2 0, 2816, .inl (u6.2.1 0)))] H := hP
      have hD : va_D A [(h0, .inr (12, [.int mthrown, .ref a1, .ref a2, .ref a3, .ref a4, .int mtaped, .ref a6, .int msize, .int mat, .int mfrom, .int mtoken, .int mvalue, .int mfaultKind, .int mfaultPlace, .ref a14, .ref a15, .int (u6.1 1), .int (u6.1 2), .int (u6.1 3), .ref a19, .ref a20, .int mleastOrder, .int mwordsMany, .ref a23, .ref a24, .ref a25, .ref a26, .ref a27, .ref a28])), (a1, .inl (g.2 0, 225, .inl mworld)), (a15, .inl (g.2 0, 2816, .inl (u6.2.1 0)))] := hD
      refine W.eq (g2 := F0 m 14 ls [.int (u6.1 0)]) rfl ?_
      refine lv_goto (tgt := 19) hx hb dX12_truly_14 (by decide) ?_
      exact rt_i FX ((fun k => match k with | 0 => u6.1 0 | 1 => u6.1 1 | 2 => u6.1 2 | 3 => u6.1 3 | _ => 0), (fun k => match k with | 0 => u6.2.1 0 | _ => fun _ => 0), (fun _ => fun _ => 0)) rfl (show 0 ≤ (u6.1 3).toInt ∧ (u6.1 3).toInt ≤ 3 by omega) (hP.sub [0, 1, 2] rfl) (hD.sub [0, 1, 2] (by decide) rfl) hS (Nat.le_of_ble_eq_true rfl) (Nat.le_of_ble_eq_true rfl) dX12_truly_19
set_option maxRecDepth 100000 in
set_option maxHeartbeats 4000000 in
theorem k_X12_gentlest (l : Launch) (g : GG) (h0 : Nat) (a1 : Nat) (a2 : Nat) (a3 : Nat) (a4 : Nat) (a6 : Nat) (a14 : Nat) (a15 : Nat) (a19 : Nat) (a20 : Nat) (a23 : Nat) (a24 : Nat) (a25 : Nat) (a26 : Nat) (a27 : Nat) (a28 : Nat) (mthrown : Int32) (mtaped : Int32) (msize : Int32) (mat : Int32) (mfrom : Int32) (mtoken : Int32) (mvalue : Int32) (mfaultKind : Int32) (mfaultPlace : Int32) (mgoal : Int32) (mgoalDays : Int32) (mgoalHearer : Int32) (mleastOrder : Int32) (mwordsMany : Int32) (mworld : Nat → Int32) (mbest : Nat → Int32) (p1 : Int32) (i_mtaped : 0 ≤ mtaped.toInt ∧ mtaped.toInt ≤ 900) (i_msize : 0 ≤ msize.toInt ∧ msize.toInt ≤ 900) (i_mat : 0 ≤ mat.toInt ∧ mat.toInt ≤ 900) (i_mfrom : 0 ≤ mfrom.toInt ∧ mfrom.toInt ≤ 900) (i_mtoken : 0 ≤ mtoken.toInt ∧ mtoken.toInt ≤ 4) (i_mvalue : 0 ≤ mvalue.toInt ∧ mvalue.toInt ≤ 99999) (i_mgoalHearer : 0 ≤ mgoalHearer.toInt ∧ mgoalHearer.toInt ≤ 3) (i_mwordsMany : 0 ≤ mwordsMany.toInt ∧ mwordsMany.toInt ≤ 10) (i_mworld : wod mworld) : Ct l g yX12_gentlest cX12_gentlest 2 (some .int) { frames := 8, cells := 0, slots := 0, locals := 193 } [.ref h0, .int p1] [(h0, .inr (12, [.int mthrown, .ref a1, .ref a2, .ref a3, .ref a4, .int mtaped, .ref a6, .int msize, .int mat, .int mfrom, .int mtoken, .int mvalue, .int mfaultKind, .int mfaultPlace, .ref a14, .ref a15, .int mgoal, .int mgoalDays, .int mgoalHearer, .ref a19, .ref a20, .int mleastOrder, .int mwordsMany, .ref a23, .ref a24, .ref a25, .ref a26, .ref a27, .ref a28])), (a1, .inl (g.2 0, 225, .inl mworld)), (a15, .inl (g.2 0, 2816, .inl mbest))] (S := (Nat → Int32) × (Nat → Nat → Int32) × (Nat → Nat → Int64)) (fun u => some (.int (u.1 0))) (fun u => (0 ≤ (u.1 3).toInt ∧ (u.1 3).toInt ≤ 3)) (fun u => [(h0, .inr (12, [.int mthrown, .ref a1, .ref a2, .ref a3, .ref a4, .int mtaped, .ref a6, .int msize, .int mat, .int mfrom, .int mtoken, .int mvalue, .int mfaultKind, .int mfaultPlace, .ref a14, .ref a15, .int (u.1 1), .int (u.1 2), .int (u.1 3), .ref a19, .ref a20, .int mleastOrder, .int mwordsMany, .ref a23, .ref a24, .ref a25, .ref a26, .ref a27, .ref a28])), (a1, .inl (g.2 0, 225, .inl mworld)), (a15, .inl (g.2 0, 2816, .inl (u.2.1 0)))]) := by
  refine Ct.of (by decide) (Nat.le_of_ble_eq_true rfl) ?_
  intro p e s m below meth c A ls FX hP hD hS hl
  obtain ⟨FC, hr, hlk, hKn, hA, hnm, hZ⟩ := id FX
  have FC : CallFix p m c cX12_gentlest 2 s _ BIG RX12 := FC
  obtain ⟨hx, hb, hml, hown, hB⟩ := id FC
  have hl : lv_has ls 2 [(0, .ref h0), (1, .int p1)] := hl
  refine lv_aload_n hx hb dX12_gentlest_0 rfl (lv_at hl 0 rfl) ?_
  refine lv_iload_n hx hb dX12_gentlest_1 rfl (lv_at hl 1 rfl) ?_
  refine call_V (As := [.int p1]) (rest := []) (wr := [(a15, .inl (g.2 0, 2816, .inl mbest))]) FC hKn hZ (k_X12_isHearer l g h0 a1 a2 a3 a4 a6 a14 a15 a19 a20 a23 a24 a25 a26 a27 a28 mthrown mtaped msize mat mfrom mtoken mvalue mfaultKind mfaultPlace mgoal mgoalDays mgoalHearer mleastOrder mwordsMany mworld p1 (by omega) (by omega) (by omega) (by omega) (by omega) (by omega) (by omega) (by omega) i_mworld) m_yX12_isHearer b_881 (ci := 12) rfl rfl rfl hP hD hS hA [0, 1] [2] rfl (by decide) rfl (by decide) (by decide) rfl hl.1 rfl (Nat.le_of_ble_eq_true rfl) dX12_gentlest_2 ⟨(Nat.le_of_ble_eq_true rfl), (Nat.le_of_ble_eq_true rfl)⟩ ⟨(Nat.le_of_ble_eq_true rfl), (Nat.le_of_ble_eq_true rfl)⟩ (fun u1 H locs q2 hP hD hS => ?_)
  obtain ⟨q2_0, q2_1⟩ := q2
  have hP : va_P g.1 vwCl [(a15, .inl (g.2 0, 2816, .inl mbest)), (h0, .inr (12, [.int mthrown, .ref a1, .ref a2, .ref a3, .ref a4, .int mtaped, .ref a6, .int msize, .int mat, .int mfrom, .int mtoken, .int mvalue, .int mfaultKind, .int mfaultPlace, .ref a14, .ref a15, .int mgoal, .int mgoalDays, .int mgoalHearer, .ref a19, .ref a20, .int mleastOrder, .int mwordsMany, .ref a23, .ref a24, .ref a25, .ref a26, .ref a27, .ref a28])), (a1, .inl (g.2 0, 225, .inl mworld))] H := hP
  have hD : va_D A [(a15, .inl (g.2 0, 2816, .inl mbest)), (h0, .inr (12, [.int mthrown, .ref a1, .ref a2, .ref a3, .ref a4, .int mtaped, .ref a6, .int msize, .int mat, .int mfrom, .int mtoken, .int mvalue, .int mfaultKind, .int mfaultPlace, .ref a14, .ref a15, .int mgoal, .int mgoalDays, .int mgoalHearer, .ref a19, .ref a20, .int mleastOrder, .int mwordsMany, .ref a23, .ref a24, .ref a25, .ref a26, .ref a27, .ref a28])), (a1, .inl (g.2 0, 225, .inl mworld))] := hD
  refine W.eq (g2 := F0 m 5 ls [.int (u1.1 0)]) rfl ?_
  rcases (show (u1.1 0).toInt = 0 ∨ (u1.1 0).toInt = 1 by omega) with c3 | c3
  · skip
    refine lv_if_eq (tgt := 17) hx hb dX12_gentlest_5 (by decide) (fun c4 => ?_) (fun c4 => ?_)
    · have c4 := k_eq (a := (u1.1 0).toInt) (b := 0) rfl (by decide) c4
      refine lv_bipush (v := -2) hx hb dX12_gentlest_17 (by decide) ?_
      exact rt_i FX ((fun k => match k with | 0 => (-2 : Int32) | 1 => mgoal | 2 => mgoalDays | 3 => mgoalHearer | _ => 0), (fun k => match k with | 0 => mbest | _ => fun _ => 0), (fun _ => fun _ => 0)) rfl (show 0 ≤ mgoalHearer.toInt ∧ mgoalHearer.toInt ≤ 3 by omega) (hP.sub [1, 2, 0] rfl) (hD.sub [1, 2, 0] (by decide) rfl) hS (Nat.le_of_ble_eq_true rfl) (Nat.le_of_ble_eq_true rfl) dX12_gentlest_19
    · have c4 := k_ne (a := (u1.1 0).toInt) (b := 0) rfl (by decide) c4
      exfalso; omega
  · have c3_r := q2_1 c3
    refine lv_if_eq (tgt := 17) hx hb dX12_gentlest_5 (by decide) (fun c5 => ?_) (fun c5 => ?_)
    · have c5 := k_eq (a := (u1.1 0).toInt) (b := 0) rfl (by decide) c5
      exfalso; omega
    · have c5 := k_ne (a := (u1.1 0).toInt) (b := 0) rfl (by decide) c5
      refine lv_aload_n hx hb dX12_gentlest_8 rfl (lv_at hl 0 rfl) ?_
      refine lv_iconst (v := 2) hx hb dX12_gentlest_9 (by decide) ?_
      refine lv_iload_n hx hb dX12_gentlest_10 rfl (lv_at hl 1 rfl) ?_
      have kc2 : (2 : Int32).toInt = 2 := by decide
      refine call_V (As := [.int 2, .int p1]) (rest := []) (wr := []) FC hKn hZ (k_X12_weekBy l g h0 a1 a2 a3 a4 a6 a14 a15 a19 a20 a23 a24 a25 a26 a27 a28 mthrown mtaped msize mat mfrom mtoken mvalue mfaultKind mfaultPlace mgoal mgoalDays mgoalHearer mleastOrder mwordsMany mworld mbest ((2 : Int32)) p1 (by omega) (by omega) (by omega) (by omega) (by omega) (by omega) (by omega) (by omega) i_mworld (by omega) (by omega)) m_yX12_weekBy b_974 (ci := 12) rfl rfl rfl hP hD hS hA [1, 2, 0] [] rfl (by decide) rfl (by decide) (by decide) rfl hl.1 rfl (Nat.le_of_ble_eq_true rfl) dX12_gentlest_11 ⟨(Nat.le_of_ble_eq_true rfl), (Nat.le_of_ble_eq_true rfl)⟩ ⟨(Nat.le_of_ble_eq_true rfl), (Nat.le_of_ble_eq_true rfl)⟩ (fun u6 H locs q7 hP hD hS => ?_)
      have q7_0 : 0 ≤ (u6.1 3).toInt ∧ (u6.1 3).toInt ≤ 3 := q7
      have hP : va_P g.1 vwCl [(h0, .inr (12, [.int mthrown, .ref a1, .ref a2, .ref a3, .ref a4, .int mtaped, .ref a6, .int msize, .int mat, .int mfrom, .int mtoken, .int mvalue, .int mfaultKind, .int mfaultPlace, .ref a14, .ref a15, .int (u6.1 1), .int (u6.1 2), .int (u6.1 3), .ref a19, .ref a20, .int mleastOrder, .int mwordsMany, .ref a23, .ref a24, .ref a25, .ref a26, .ref a27, .ref a28])), (a1, .inl (g.2 0, 225, .inl mworld)), (a15, .inl (g.2 0, 2816, .inl (u6.2.1 0)))] H := hP
      have hD : va_D A [(h0, .inr (12, [.int mthrown, .ref a1, .ref a2, .ref a3, .ref a4, .int mtaped, .ref a6, .int msize, .int mat, .int mfrom, .int mtoken, .int mvalue, .int mfaultKind, .int mfaultPlace, .ref a14, .ref a15, .int (u6.1 1), .int (u6.1 2), .int (u6.1 3), .ref a19, .ref a20, .int mleastOrder, .int mwordsMany, .ref a23, .ref a24, .ref a25, .ref a26, .ref a27, .ref a28])), (a1, .inl (g.2 0, 225, .inl mworld)), (a15, .inl (g.2 0, 2816, .inl (u6.2.1 0)))] := hD
      refine W.eq (g2 := F0 m 14 ls [.int (u6.1 0)]) rfl ?_
      refine lv_goto (tgt := 19) hx hb dX12_gentlest_14 (by decide) ?_
      exact rt_i FX ((fun k => match k with | 0 => u6.1 0 | 1 => u6.1 1 | 2 => u6.1 2 | 3 => u6.1 3 | _ => 0), (fun k => match k with | 0 => u6.2.1 0 | _ => fun _ => 0), (fun _ => fun _ => 0)) rfl (show 0 ≤ (u6.1 3).toInt ∧ (u6.1 3).toInt ≤ 3 by omega) (hP.sub [0, 1, 2] rfl) (hD.sub [0, 1, 2] (by decide) rfl) hS (Nat.le_of_ble_eq_true rfl) (Nat.le_of_ble_eq_true rfl) dX12_gentlest_19
set_option maxRecDepth 100000 in
set_option maxHeartbeats 4000000 in
theorem k_X12_tender (l : Launch) (g : GG) (h0 : Nat) (a1 : Nat) (a2 : Nat) (a3 : Nat) (a4 : Nat) (a6 : Nat) (a14 : Nat) (a15 : Nat) (a19 : Nat) (a20 : Nat) (a23 : Nat) (a24 : Nat) (a25 : Nat) (a26 : Nat) (a27 : Nat) (a28 : Nat) (mthrown : Int32) (mtaped : Int32) (msize : Int32) (mat : Int32) (mfrom : Int32) (mtoken : Int32) (mvalue : Int32) (mfaultKind : Int32) (mfaultPlace : Int32) (mgoal : Int32) (mgoalDays : Int32) (mgoalHearer : Int32) (mleastOrder : Int32) (mwordsMany : Int32) (mworld : Nat → Int32) (mbest : Nat → Int32) (p1 : Int32) (i_mtaped : 0 ≤ mtaped.toInt ∧ mtaped.toInt ≤ 900) (i_msize : 0 ≤ msize.toInt ∧ msize.toInt ≤ 900) (i_mat : 0 ≤ mat.toInt ∧ mat.toInt ≤ 900) (i_mfrom : 0 ≤ mfrom.toInt ∧ mfrom.toInt ≤ 900) (i_mtoken : 0 ≤ mtoken.toInt ∧ mtoken.toInt ≤ 4) (i_mvalue : 0 ≤ mvalue.toInt ∧ mvalue.toInt ≤ 99999) (i_mgoalHearer : 0 ≤ mgoalHearer.toInt ∧ mgoalHearer.toInt ≤ 3) (i_mwordsMany : 0 ≤ mwordsMany.toInt ∧ mwordsMany.toInt ≤ 10) (i_mworld : wod mworld) : Ct l g yX12_tender cX12_tender 2 (some .int) { frames := 8, cells := 0, slots := 0, locals := 193 } [.ref h0, .int p1] [(h0, .inr (12, [.int mthrown, .ref a1, .ref a2, .ref a3, .ref a4, .int mtaped, .ref a6, .int msize, .int mat, .int mfrom, .int mtoken, .int mvalue, .int mfaultKind, .int mfaultPlace, .ref a14, .ref a15, .int mgoal, .int mgoalDays, .int mgoalHearer, .ref a19, .ref a20, .int mleastOrder, .int mwordsMany, .ref a23, .ref a24, .ref a25, .ref a26, .ref a27, .ref a28])), (a1, .inl (g.2 0, 225, .inl mworld)), (a15, .inl (g.2 0, 2816, .inl mbest))] (S := (Nat → Int32) × (Nat → Nat → Int32) × (Nat → Nat → Int64)) (fun u => some (.int (u.1 0))) (fun u => (0 ≤ (u.1 3).toInt ∧ (u.1 3).toInt ≤ 3)) (fun u => [(h0, .inr (12, [.int mthrown, .ref a1, .ref a2, .ref a3, .ref a4, .int mtaped, .ref a6, .int msize, .int mat, .int mfrom, .int mtoken, .int mvalue, .int mfaultKind, .int mfaultPlace, .ref a14, .ref a15, .int (u.1 1), .int (u.1 2), .int (u.1 3), .ref a19, .ref a20, .int mleastOrder, .int mwordsMany, .ref a23, .ref a24, .ref a25, .ref a26, .ref a27, .ref a28])), (a1, .inl (g.2 0, 225, .inl mworld)), (a15, .inl (g.2 0, 2816, .inl (u.2.1 0)))]) := by
  refine Ct.of (by decide) (Nat.le_of_ble_eq_true rfl) ?_
  intro p e s m below meth c A ls FX hP hD hS hl
  obtain ⟨FC, hr, hlk, hKn, hA, hnm, hZ⟩ := id FX
  have FC : CallFix p m c cX12_tender 2 s _ BIG RX12 := FC
  obtain ⟨hx, hb, hml, hown, hB⟩ := id FC
  have hl : lv_has ls 2 [(0, .ref h0), (1, .int p1)] := hl
  refine lv_aload_n hx hb dX12_tender_0 rfl (lv_at hl 0 rfl) ?_
  refine lv_iload_n hx hb dX12_tender_1 rfl (lv_at hl 1 rfl) ?_
  refine call_V (As := [.int p1]) (rest := []) (wr := [(a15, .inl (g.2 0, 2816, .inl mbest))]) FC hKn hZ (k_X12_isHearer l g h0 a1 a2 a3 a4 a6 a14 a15 a19 a20 a23 a24 a25 a26 a27 a28 mthrown mtaped msize mat mfrom mtoken mvalue mfaultKind mfaultPlace mgoal mgoalDays mgoalHearer mleastOrder mwordsMany mworld p1 (by omega) (by omega) (by omega) (by omega) (by omega) (by omega) (by omega) (by omega) i_mworld) m_yX12_isHearer b_881 (ci := 12) rfl rfl rfl hP hD hS hA [0, 1] [2] rfl (by decide) rfl (by decide) (by decide) rfl hl.1 rfl (Nat.le_of_ble_eq_true rfl) dX12_tender_2 ⟨(Nat.le_of_ble_eq_true rfl), (Nat.le_of_ble_eq_true rfl)⟩ ⟨(Nat.le_of_ble_eq_true rfl), (Nat.le_of_ble_eq_true rfl)⟩ (fun u1 H locs q2 hP hD hS => ?_)
  obtain ⟨q2_0, q2_1⟩ := q2
  have hP : va_P g.1 vwCl [(a15, .inl (g.2 0, 2816, .inl mbest)), (h0, .inr (12, [.int mthrown, .ref a1, .ref a2, .ref a3, .ref a4, .int mtaped, .ref a6, .int msize, .int mat, .int mfrom, .int mtoken, .int mvalue, .int mfaultKind, .int mfaultPlace, .ref a14, .ref a15, .int mgoal, .int mgoalDays, .int mgoalHearer, .ref a19, .ref a20, .int mleastOrder, .int mwordsMany, .ref a23, .ref a24, .ref a25, .ref a26, .ref a27, .ref a28])), (a1, .inl (g.2 0, 225, .inl mworld))] H := hP
  have hD : va_D A [(a15, .inl (g.2 0, 2816, .inl mbest)), (h0, .inr (12, [.int mthrown, .ref a1, .ref a2, .ref a3, .ref a4, .int mtaped, .ref a6, .int msize, .int mat, .int mfrom, .int mtoken, .int mvalue, .int mfaultKind, .int mfaultPlace, .ref a14, .ref a15, .int mgoal, .int mgoalDays, .int mgoalHearer, .ref a19, .ref a20, .int mleastOrder, .int mwordsMany, .ref a23, .ref a24, .ref a25, .ref a26, .ref a27, .ref a28])), (a1, .inl (g.2 0, 225, .inl mworld))] := hD
  refine W.eq (g2 := F0 m 5 ls [.int (u1.1 0)]) rfl ?_
  rcases (show (u1.1 0).toInt = 0 ∨ (u1.1 0).toInt = 1 by omega) with c3 | c3
  · skip
    refine lv_if_eq (tgt := 17) hx hb dX12_tender_5 (by decide) (fun c4 => ?_) (fun c4 => ?_)
    · have c4 := k_eq (a := (u1.1 0).toInt) (b := 0) rfl (by decide) c4
      refine lv_bipush (v := -2) hx hb dX12_tender_17 (by decide) ?_
      exact rt_i FX ((fun k => match k with | 0 => (-2 : Int32) | 1 => mgoal | 2 => mgoalDays | 3 => mgoalHearer | _ => 0), (fun k => match k with | 0 => mbest | _ => fun _ => 0), (fun _ => fun _ => 0)) rfl (show 0 ≤ mgoalHearer.toInt ∧ mgoalHearer.toInt ≤ 3 by omega) (hP.sub [1, 2, 0] rfl) (hD.sub [1, 2, 0] (by decide) rfl) hS (Nat.le_of_ble_eq_true rfl) (Nat.le_of_ble_eq_true rfl) dX12_tender_19
    · have c4 := k_ne (a := (u1.1 0).toInt) (b := 0) rfl (by decide) c4
      exfalso; omega
  · have c3_r := q2_1 c3
    refine lv_if_eq (tgt := 17) hx hb dX12_tender_5 (by decide) (fun c5 => ?_) (fun c5 => ?_)
    · have c5 := k_eq (a := (u1.1 0).toInt) (b := 0) rfl (by decide) c5
      exfalso; omega
    · have c5 := k_ne (a := (u1.1 0).toInt) (b := 0) rfl (by decide) c5
      refine lv_aload_n hx hb dX12_tender_8 rfl (lv_at hl 0 rfl) ?_
      refine lv_iconst (v := 5) hx hb dX12_tender_9 (by decide) ?_
      refine lv_iload_n hx hb dX12_tender_10 rfl (lv_at hl 1 rfl) ?_
      have kc5 : (5 : Int32).toInt = 5 := by decide
      refine call_V (As := [.int 5, .int p1]) (rest := []) (wr := []) FC hKn hZ (k_X12_weekBy l g h0 a1 a2 a3 a4 a6 a14 a15 a19 a20 a23 a24 a25 a26 a27 a28 mthrown mtaped msize mat mfrom mtoken mvalue mfaultKind mfaultPlace mgoal mgoalDays mgoalHearer mleastOrder mwordsMany mworld mbest ((5 : Int32)) p1 (by omega) (by omega) (by omega) (by omega) (by omega) (by omega) (by omega) (by omega) i_mworld (by omega) (by omega)) m_yX12_weekBy b_974 (ci := 12) rfl rfl rfl hP hD hS hA [1, 2, 0] [] rfl (by decide) rfl (by decide) (by decide) rfl hl.1 rfl (Nat.le_of_ble_eq_true rfl) dX12_tender_11 ⟨(Nat.le_of_ble_eq_true rfl), (Nat.le_of_ble_eq_true rfl)⟩ ⟨(Nat.le_of_ble_eq_true rfl), (Nat.le_of_ble_eq_true rfl)⟩ (fun u6 H locs q7 hP hD hS => ?_)
      have q7_0 : 0 ≤ (u6.1 3).toInt ∧ (u6.1 3).toInt ≤ 3 := q7
      have hP : va_P g.1 vwCl [(h0, .inr (12, [.int mthrown, .ref a1, .ref a2, .ref a3, .ref a4, .int mtaped, .ref a6, .int msize, .int mat, .int mfrom, .int mtoken, .int mvalue, .int mfaultKind, .int mfaultPlace, .ref a14, .ref a15, .int (u6.1 1), .int (u6.1 2), .int (u6.1 3), .ref a19, .ref a20, .int mleastOrder, .int mwordsMany, .ref a23, .ref a24, .ref a25, .ref a26, .ref a27, .ref a28])), (a1, .inl (g.2 0, 225, .inl mworld)), (a15, .inl (g.2 0, 2816, .inl (u6.2.1 0)))] H := hP
      have hD : va_D A [(h0, .inr (12, [.int mthrown, .ref a1, .ref a2, .ref a3, .ref a4, .int mtaped, .ref a6, .int msize, .int mat, .int mfrom, .int mtoken, .int mvalue, .int mfaultKind, .int mfaultPlace, .ref a14, .ref a15, .int (u6.1 1), .int (u6.1 2), .int (u6.1 3), .ref a19, .ref a20, .int mleastOrder, .int mwordsMany, .ref a23, .ref a24, .ref a25, .ref a26, .ref a27, .ref a28])), (a1, .inl (g.2 0, 225, .inl mworld)), (a15, .inl (g.2 0, 2816, .inl (u6.2.1 0)))] := hD
      refine W.eq (g2 := F0 m 14 ls [.int (u6.1 0)]) rfl ?_
      refine lv_goto (tgt := 19) hx hb dX12_tender_14 (by decide) ?_
      exact rt_i FX ((fun k => match k with | 0 => u6.1 0 | 1 => u6.1 1 | 2 => u6.1 2 | 3 => u6.1 3 | _ => 0), (fun k => match k with | 0 => u6.2.1 0 | _ => fun _ => 0), (fun _ => fun _ => 0)) rfl (show 0 ≤ (u6.1 3).toInt ∧ (u6.1 3).toInt ≤ 3 by omega) (hP.sub [0, 1, 2] rfl) (hD.sub [0, 1, 2] (by decide) rfl) hS (Nat.le_of_ble_eq_true rfl) (Nat.le_of_ble_eq_true rfl) dX12_tender_19
set_option maxRecDepth 100000 in
set_option maxHeartbeats 4000000 in
theorem k_X12_risk (l : Launch) (g : GG) (h0 : Nat) (a1 : Nat) (a2 : Nat) (a3 : Nat) (a4 : Nat) (a6 : Nat) (a14 : Nat) (a15 : Nat) (a19 : Nat) (a20 : Nat) (a23 : Nat) (a24 : Nat) (a25 : Nat) (a26 : Nat) (a27 : Nat) (a28 : Nat) (mthrown : Int32) (mtaped : Int32) (msize : Int32) (mat : Int32) (mfrom : Int32) (mtoken : Int32) (mvalue : Int32) (mfaultKind : Int32) (mfaultPlace : Int32) (mgoal : Int32) (mgoalDays : Int32) (mgoalHearer : Int32) (mleastOrder : Int32) (mwordsMany : Int32) (mworld : Nat → Int32) (mbest : Nat → Int32) (p1 : Int32) (i_mtaped : 0 ≤ mtaped.toInt ∧ mtaped.toInt ≤ 900) (i_msize : 0 ≤ msize.toInt ∧ msize.toInt ≤ 900) (i_mat : 0 ≤ mat.toInt ∧ mat.toInt ≤ 900) (i_mfrom : 0 ≤ mfrom.toInt ∧ mfrom.toInt ≤ 900) (i_mtoken : 0 ≤ mtoken.toInt ∧ mtoken.toInt ≤ 4) (i_mvalue : 0 ≤ mvalue.toInt ∧ mvalue.toInt ≤ 99999) (i_mgoalHearer : 0 ≤ mgoalHearer.toInt ∧ mgoalHearer.toInt ≤ 3) (i_mwordsMany : 0 ≤ mwordsMany.toInt ∧ mwordsMany.toInt ≤ 10) (i_mworld : wod mworld) : Ct l g yX12_risk cX12_risk 2 (some .int) { frames := 8, cells := 0, slots := 0, locals := 193 } [.ref h0, .int p1] [(h0, .inr (12, [.int mthrown, .ref a1, .ref a2, .ref a3, .ref a4, .int mtaped, .ref a6, .int msize, .int mat, .int mfrom, .int mtoken, .int mvalue, .int mfaultKind, .int mfaultPlace, .ref a14, .ref a15, .int mgoal, .int mgoalDays, .int mgoalHearer, .ref a19, .ref a20, .int mleastOrder, .int mwordsMany, .ref a23, .ref a24, .ref a25, .ref a26, .ref a27, .ref a28])), (a1, .inl (g.2 0, 225, .inl mworld)), (a15, .inl (g.2 0, 2816, .inl mbest))] (S := (Nat → Int32) × (Nat → Nat → Int32) × (Nat → Nat → Int64)) (fun u => some (.int (u.1 0))) (fun u => (0 ≤ (u.1 3).toInt ∧ (u.1 3).toInt ≤ 3)) (fun u => [(h0, .inr (12, [.int mthrown, .ref a1, .ref a2, .ref a3, .ref a4, .int mtaped, .ref a6, .int msize, .int mat, .int mfrom, .int mtoken, .int mvalue, .int mfaultKind, .int mfaultPlace, .ref a14, .ref a15, .int (u.1 1), .int (u.1 2), .int (u.1 3), .ref a19, .ref a20, .int mleastOrder, .int mwordsMany, .ref a23, .ref a24, .ref a25, .ref a26, .ref a27, .ref a28])), (a1, .inl (g.2 0, 225, .inl mworld)), (a15, .inl (g.2 0, 2816, .inl (u.2.1 0)))]) := by
  refine Ct.of (by decide) (Nat.le_of_ble_eq_true rfl) ?_
  intro p e s m below meth c A ls FX hP hD hS hl
  obtain ⟨FC, hr, hlk, hKn, hA, hnm, hZ⟩ := id FX
  have FC : CallFix p m c cX12_risk 2 s _ BIG RX12 := FC
  obtain ⟨hx, hb, hml, hown, hB⟩ := id FC
  have hl : lv_has ls 2 [(0, .ref h0), (1, .int p1)] := hl
  refine lv_aload_n hx hb dX12_risk_0 rfl (lv_at hl 0 rfl) ?_
  refine lv_iload_n hx hb dX12_risk_1 rfl (lv_at hl 1 rfl) ?_
  refine call_V (As := [.int p1]) (rest := []) (wr := [(a15, .inl (g.2 0, 2816, .inl mbest))]) FC hKn hZ (k_X12_isHearer l g h0 a1 a2 a3 a4 a6 a14 a15 a19 a20 a23 a24 a25 a26 a27 a28 mthrown mtaped msize mat mfrom mtoken mvalue mfaultKind mfaultPlace mgoal mgoalDays mgoalHearer mleastOrder mwordsMany mworld p1 (by omega) (by omega) (by omega) (by omega) (by omega) (by omega) (by omega) (by omega) i_mworld) m_yX12_isHearer b_881 (ci := 12) rfl rfl rfl hP hD hS hA [0, 1] [2] rfl (by decide) rfl (by decide) (by decide) rfl hl.1 rfl (Nat.le_of_ble_eq_true rfl) dX12_risk_2 ⟨(Nat.le_of_ble_eq_true rfl), (Nat.le_of_ble_eq_true rfl)⟩ ⟨(Nat.le_of_ble_eq_true rfl), (Nat.le_of_ble_eq_true rfl)⟩ (fun u1 H locs q2 hP hD hS => ?_)
  obtain ⟨q2_0, q2_1⟩ := q2
  have hP : va_P g.1 vwCl [(a15, .inl (g.2 0, 2816, .inl mbest)), (h0, .inr (12, [.int mthrown, .ref a1, .ref a2, .ref a3, .ref a4, .int mtaped, .ref a6, .int msize, .int mat, .int mfrom, .int mtoken, .int mvalue, .int mfaultKind, .int mfaultPlace, .ref a14, .ref a15, .int mgoal, .int mgoalDays, .int mgoalHearer, .ref a19, .ref a20, .int mleastOrder, .int mwordsMany, .ref a23, .ref a24, .ref a25, .ref a26, .ref a27, .ref a28])), (a1, .inl (g.2 0, 225, .inl mworld))] H := hP
  have hD : va_D A [(a15, .inl (g.2 0, 2816, .inl mbest)), (h0, .inr (12, [.int mthrown, .ref a1, .ref a2, .ref a3, .ref a4, .int mtaped, .ref a6, .int msize, .int mat, .int mfrom, .int mtoken, .int mvalue, .int mfaultKind, .int mfaultPlace, .ref a14, .ref a15, .int mgoal, .int mgoalDays, .int mgoalHearer, .ref a19, .ref a20, .int mleastOrder, .int mwordsMany, .ref a23, .ref a24, .ref a25, .ref a26, .ref a27, .ref a28])), (a1, .inl (g.2 0, 225, .inl mworld))] := hD
  refine W.eq (g2 := F0 m 5 ls [.int (u1.1 0)]) rfl ?_
  rcases (show (u1.1 0).toInt = 0 ∨ (u1.1 0).toInt = 1 by omega) with c3 | c3
  · skip
    refine lv_if_eq (tgt := 17) hx hb dX12_risk_5 (by decide) (fun c4 => ?_) (fun c4 => ?_)
    · have c4 := k_eq (a := (u1.1 0).toInt) (b := 0) rfl (by decide) c4
      refine lv_bipush (v := -2) hx hb dX12_risk_17 (by decide) ?_
      exact rt_i FX ((fun k => match k with | 0 => (-2 : Int32) | 1 => mgoal | 2 => mgoalDays | 3 => mgoalHearer | _ => 0), (fun k => match k with | 0 => mbest | _ => fun _ => 0), (fun _ => fun _ => 0)) rfl (show 0 ≤ mgoalHearer.toInt ∧ mgoalHearer.toInt ≤ 3 by omega) (hP.sub [1, 2, 0] rfl) (hD.sub [1, 2, 0] (by decide) rfl) hS (Nat.le_of_ble_eq_true rfl) (Nat.le_of_ble_eq_true rfl) dX12_risk_19
    · have c4 := k_ne (a := (u1.1 0).toInt) (b := 0) rfl (by decide) c4
      exfalso; omega
  · have c3_r := q2_1 c3
    refine lv_if_eq (tgt := 17) hx hb dX12_risk_5 (by decide) (fun c5 => ?_) (fun c5 => ?_)
    · have c5 := k_eq (a := (u1.1 0).toInt) (b := 0) rfl (by decide) c5
      exfalso; omega
    · have c5 := k_ne (a := (u1.1 0).toInt) (b := 0) rfl (by decide) c5
      refine lv_aload_n hx hb dX12_risk_8 rfl (lv_at hl 0 rfl) ?_
      refine lv_iconst (v := 4) hx hb dX12_risk_9 (by decide) ?_
      refine lv_iload_n hx hb dX12_risk_10 rfl (lv_at hl 1 rfl) ?_
      have kc4 : (4 : Int32).toInt = 4 := by decide
      refine call_V (As := [.int 4, .int p1]) (rest := []) (wr := []) FC hKn hZ (k_X12_weekBy l g h0 a1 a2 a3 a4 a6 a14 a15 a19 a20 a23 a24 a25 a26 a27 a28 mthrown mtaped msize mat mfrom mtoken mvalue mfaultKind mfaultPlace mgoal mgoalDays mgoalHearer mleastOrder mwordsMany mworld mbest ((4 : Int32)) p1 (by omega) (by omega) (by omega) (by omega) (by omega) (by omega) (by omega) (by omega) i_mworld (by omega) (by omega)) m_yX12_weekBy b_974 (ci := 12) rfl rfl rfl hP hD hS hA [1, 2, 0] [] rfl (by decide) rfl (by decide) (by decide) rfl hl.1 rfl (Nat.le_of_ble_eq_true rfl) dX12_risk_11 ⟨(Nat.le_of_ble_eq_true rfl), (Nat.le_of_ble_eq_true rfl)⟩ ⟨(Nat.le_of_ble_eq_true rfl), (Nat.le_of_ble_eq_true rfl)⟩ (fun u6 H locs q7 hP hD hS => ?_)
      have q7_0 : 0 ≤ (u6.1 3).toInt ∧ (u6.1 3).toInt ≤ 3 := q7
      have hP : va_P g.1 vwCl [(h0, .inr (12, [.int mthrown, .ref a1, .ref a2, .ref a3, .ref a4, .int mtaped, .ref a6, .int msize, .int mat, .int mfrom, .int mtoken, .int mvalue, .int mfaultKind, .int mfaultPlace, .ref a14, .ref a15, .int (u6.1 1), .int (u6.1 2), .int (u6.1 3), .ref a19, .ref a20, .int mleastOrder, .int mwordsMany, .ref a23, .ref a24, .ref a25, .ref a26, .ref a27, .ref a28])), (a1, .inl (g.2 0, 225, .inl mworld)), (a15, .inl (g.2 0, 2816, .inl (u6.2.1 0)))] H := hP
      have hD : va_D A [(h0, .inr (12, [.int mthrown, .ref a1, .ref a2, .ref a3, .ref a4, .int mtaped, .ref a6, .int msize, .int mat, .int mfrom, .int mtoken, .int mvalue, .int mfaultKind, .int mfaultPlace, .ref a14, .ref a15, .int (u6.1 1), .int (u6.1 2), .int (u6.1 3), .ref a19, .ref a20, .int mleastOrder, .int mwordsMany, .ref a23, .ref a24, .ref a25, .ref a26, .ref a27, .ref a28])), (a1, .inl (g.2 0, 225, .inl mworld)), (a15, .inl (g.2 0, 2816, .inl (u6.2.1 0)))] := hD
      refine W.eq (g2 := F0 m 14 ls [.int (u6.1 0)]) rfl ?_
      refine lv_goto (tgt := 19) hx hb dX12_risk_14 (by decide) ?_
      exact rt_i FX ((fun k => match k with | 0 => u6.1 0 | 1 => u6.1 1 | 2 => u6.1 2 | 3 => u6.1 3 | _ => 0), (fun k => match k with | 0 => u6.2.1 0 | _ => fun _ => 0), (fun _ => fun _ => 0)) rfl (show 0 ≤ (u6.1 3).toInt ∧ (u6.1 3).toInt ≤ 3 by omega) (hP.sub [0, 1, 2] rfl) (hD.sub [0, 1, 2] (by decide) rfl) hS (Nat.le_of_ble_eq_true rfl) (Nat.le_of_ble_eq_true rfl) dX12_risk_19
set_option maxRecDepth 100000 in
set_option maxHeartbeats 4000000 in
theorem k_X12_step (l : Launch) (g : GG) (h0 : Nat) (a1 : Nat) (a2 : Nat) (a3 : Nat) (a4 : Nat) (a6 : Nat) (a14 : Nat) (a15 : Nat) (a19 : Nat) (a20 : Nat) (a23 : Nat) (a24 : Nat) (a25 : Nat) (a26 : Nat) (a27 : Nat) (a28 : Nat) (mthrown : Int32) (mtaped : Int32) (msize : Int32) (mat : Int32) (mfrom : Int32) (mtoken : Int32) (mvalue : Int32) (mfaultKind : Int32) (mfaultPlace : Int32) (mgoal : Int32) (mgoalDays : Int32) (mgoalHearer : Int32) (mleastOrder : Int32) (mwordsMany : Int32) (mworld : Nat → Int32) (mbest : Nat → Int32) (p1 : Int32) (p2 : Int32) (i_mtaped : 0 ≤ mtaped.toInt ∧ mtaped.toInt ≤ 900) (i_msize : 0 ≤ msize.toInt ∧ msize.toInt ≤ 900) (i_mat : 0 ≤ mat.toInt ∧ mat.toInt ≤ 900) (i_mfrom : 0 ≤ mfrom.toInt ∧ mfrom.toInt ≤ 900) (i_mtoken : 0 ≤ mtoken.toInt ∧ mtoken.toInt ≤ 4) (i_mvalue : 0 ≤ mvalue.toInt ∧ mvalue.toInt ≤ 99999) (i_mgoalHearer : 0 ≤ mgoalHearer.toInt ∧ mgoalHearer.toInt ≤ 3) (i_mwordsMany : 0 ≤ mwordsMany.toInt ∧ mwordsMany.toInt ≤ 10) (i_mworld : wod mworld) : Ct l g yX12_step cX12_step 3 (some .int) { frames := 9, cells := 0, slots := 0, locals := 220 } [.ref h0, .int p1, .int p2] [(h0, .inr (12, [.int mthrown, .ref a1, .ref a2, .ref a3, .ref a4, .int mtaped, .ref a6, .int msize, .int mat, .int mfrom, .int mtoken, .int mvalue, .int mfaultKind, .int mfaultPlace, .ref a14, .ref a15, .int mgoal, .int mgoalDays, .int mgoalHearer, .ref a19, .ref a20, .int mleastOrder, .int mwordsMany, .ref a23, .ref a24, .ref a25, .ref a26, .ref a27, .ref a28])), (a1, .inl (g.2 0, 225, .inl mworld)), (a15, .inl (g.2 0, 2816, .inl mbest))] (S := (Nat → Int32) × (Nat → Nat → Int32) × (Nat → Nat → Int64)) (fun u => some (.int (u.1 0))) (fun u => (0 ≤ (u.1 3).toInt ∧ (u.1 3).toInt ≤ 3)) (fun u => [(h0, .inr (12, [.int mthrown, .ref a1, .ref a2, .ref a3, .ref a4, .int mtaped, .ref a6, .int msize, .int mat, .int mfrom, .int mtoken, .int mvalue, .int mfaultKind, .int mfaultPlace, .ref a14, .ref a15, .int (u.1 1), .int (u.1 2), .int (u.1 3), .ref a19, .ref a20, .int mleastOrder, .int mwordsMany, .ref a23, .ref a24, .ref a25, .ref a26, .ref a27, .ref a28])), (a1, .inl (g.2 0, 225, .inl mworld)), (a15, .inl (g.2 0, 2816, .inl (u.2.1 0)))]) := by
  refine Ct.of (by decide) (Nat.le_of_ble_eq_true rfl) ?_
  intro p e s m below meth c A ls FX hP hD hS hl
  obtain ⟨FC, hr, hlk, hKn, hA, hnm, hZ⟩ := id FX
  have FC : CallFix p m c cX12_step 3 s _ BIG RX12 := FC
  obtain ⟨hx, hb, hml, hown, hB⟩ := id FC
  have hl : lv_has ls 3 [(0, .ref h0), (1, .int p1), (2, .int p2)] := hl
  refine lv_aload_n hx hb dX12_step_0 rfl (lv_at hl 0 rfl) ?_
  refine lv_iload_n hx hb dX12_step_1 rfl (lv_at hl 1 rfl) ?_
  refine call_V (As := [.int p1]) (rest := []) (wr := [(a15, .inl (g.2 0, 2816, .inl mbest))]) FC hKn hZ (k_X12_isHearer l g h0 a1 a2 a3 a4 a6 a14 a15 a19 a20 a23 a24 a25 a26 a27 a28 mthrown mtaped msize mat mfrom mtoken mvalue mfaultKind mfaultPlace mgoal mgoalDays mgoalHearer mleastOrder mwordsMany mworld p1 (by omega) (by omega) (by omega) (by omega) (by omega) (by omega) (by omega) (by omega) i_mworld) m_yX12_isHearer b_881 (ci := 12) rfl rfl rfl hP hD hS hA [0, 1] [2] rfl (by decide) rfl (by decide) (by decide) rfl hl.1 rfl (Nat.le_of_ble_eq_true rfl) dX12_step_2 ⟨(Nat.le_of_ble_eq_true rfl), (Nat.le_of_ble_eq_true rfl)⟩ ⟨(Nat.le_of_ble_eq_true rfl), (Nat.le_of_ble_eq_true rfl)⟩ (fun u1 H locs q2 hP hD hS => ?_)
  obtain ⟨q2_0, q2_1⟩ := q2
  have hP : va_P g.1 vwCl [(a15, .inl (g.2 0, 2816, .inl mbest)), (h0, .inr (12, [.int mthrown, .ref a1, .ref a2, .ref a3, .ref a4, .int mtaped, .ref a6, .int msize, .int mat, .int mfrom, .int mtoken, .int mvalue, .int mfaultKind, .int mfaultPlace, .ref a14, .ref a15, .int mgoal, .int mgoalDays, .int mgoalHearer, .ref a19, .ref a20, .int mleastOrder, .int mwordsMany, .ref a23, .ref a24, .ref a25, .ref a26, .ref a27, .ref a28])), (a1, .inl (g.2 0, 225, .inl mworld))] H := hP
  have hD : va_D A [(a15, .inl (g.2 0, 2816, .inl mbest)), (h0, .inr (12, [.int mthrown, .ref a1, .ref a2, .ref a3, .ref a4, .int mtaped, .ref a6, .int msize, .int mat, .int mfrom, .int mtoken, .int mvalue, .int mfaultKind, .int mfaultPlace, .ref a14, .ref a15, .int mgoal, .int mgoalDays, .int mgoalHearer, .ref a19, .ref a20, .int mleastOrder, .int mwordsMany, .ref a23, .ref a24, .ref a25, .ref a26, .ref a27, .ref a28])), (a1, .inl (g.2 0, 225, .inl mworld))] := hD
  refine W.eq (g2 := F0 m 5 ls [.int (u1.1 0)]) rfl ?_
  rcases (show (u1.1 0).toInt = 0 ∨ (u1.1 0).toInt = 1 by omega) with c3 | c3
  · skip
    refine lv_if_eq (tgt := 26) hx hb dX12_step_5 (by decide) (fun c4 => ?_) (fun c4 => ?_)
    · have c4 := k_eq (a := (u1.1 0).toInt) (b := 0) rfl (by decide) c4
      refine lv_bipush (v := -2) hx hb dX12_step_26 (by decide) ?_
      exact rt_i FX ((fun k => match k with | 0 => (-2 : Int32) | 1 => mgoal | 2 => mgoalDays | 3 => mgoalHearer | _ => 0), (fun k => match k with | 0 => mbest | _ => fun _ => 0), (fun _ => fun _ => 0)) rfl (show 0 ≤ mgoalHearer.toInt ∧ mgoalHearer.toInt ≤ 3 by omega) (hP.sub [1, 2, 0] rfl) (hD.sub [1, 2, 0] (by decide) rfl) hS (Nat.le_of_ble_eq_true rfl) (Nat.le_of_ble_eq_true rfl) dX12_step_28
    · have c4 := k_ne (a := (u1.1 0).toInt) (b := 0) rfl (by decide) c4
      exfalso; omega
  · have c3_r := q2_1 c3
    refine lv_if_eq (tgt := 26) hx hb dX12_step_5 (by decide) (fun c5 => ?_) (fun c5 => ?_)
    · have c5 := k_eq (a := (u1.1 0).toInt) (b := 0) rfl (by decide) c5
      exfalso; omega
    · have c5 := k_ne (a := (u1.1 0).toInt) (b := 0) rfl (by decide) c5
      refine lv_aload_n hx hb dX12_step_8 rfl (lv_at hl 0 rfl) ?_
      refine lv_iload_n hx hb dX12_step_9 rfl (lv_at hl 2 rfl) ?_
      refine call_V (As := [.int p2]) (rest := []) (wr := [(a15, .inl (g.2 0, 2816, .inl mbest))]) FC hKn hZ (k_X12_isDay l g h0 a1 a2 a3 a4 a6 a14 a15 a19 a20 a23 a24 a25 a26 a27 a28 mthrown mtaped msize mat mfrom mtoken mvalue mfaultKind mfaultPlace mgoal mgoalDays mgoalHearer mleastOrder mwordsMany mworld p2 (by omega) (by omega) (by omega) (by omega) (by omega) (by omega) (by omega) (by omega) i_mworld) m_yX12_isDay b_976 (ci := 12) rfl rfl rfl hP hD hS hA [1, 2] [0] rfl (by decide) rfl (by decide) (by decide) rfl hl.1 rfl (Nat.le_of_ble_eq_true rfl) dX12_step_10 ⟨(Nat.le_of_ble_eq_true rfl), (Nat.le_of_ble_eq_true rfl)⟩ ⟨(Nat.le_of_ble_eq_true rfl), (Nat.le_of_ble_eq_true rfl)⟩ (fun u6 H locs q7 hP hD hS => ?_)
      obtain ⟨q7_0, q7_1⟩ := q7
      have hP : va_P g.1 vwCl [(a15, .inl (g.2 0, 2816, .inl mbest)), (h0, .inr (12, [.int mthrown, .ref a1, .ref a2, .ref a3, .ref a4, .int mtaped, .ref a6, .int msize, .int mat, .int mfrom, .int mtoken, .int mvalue, .int mfaultKind, .int mfaultPlace, .ref a14, .ref a15, .int mgoal, .int mgoalDays, .int mgoalHearer, .ref a19, .ref a20, .int mleastOrder, .int mwordsMany, .ref a23, .ref a24, .ref a25, .ref a26, .ref a27, .ref a28])), (a1, .inl (g.2 0, 225, .inl mworld))] H := hP
      have hD : va_D A [(a15, .inl (g.2 0, 2816, .inl mbest)), (h0, .inr (12, [.int mthrown, .ref a1, .ref a2, .ref a3, .ref a4, .int mtaped, .ref a6, .int msize, .int mat, .int mfrom, .int mtoken, .int mvalue, .int mfaultKind, .int mfaultPlace, .ref a14, .ref a15, .int mgoal, .int mgoalDays, .int mgoalHearer, .ref a19, .ref a20, .int mleastOrder, .int mwordsMany, .ref a23, .ref a24, .ref a25, .ref a26, .ref a27, .ref a28])), (a1, .inl (g.2 0, 225, .inl mworld))] := hD
      refine W.eq (g2 := F0 m 13 ls [.int (u6.1 0)]) rfl ?_
      rcases (show (u6.1 0).toInt = 0 ∨ (u6.1 0).toInt = 1 by omega) with c8 | c8
      · skip
        refine lv_if_eq (tgt := 26) hx hb dX12_step_13 (by decide) (fun c9 => ?_) (fun c9 => ?_)
        · have c9 := k_eq (a := (u6.1 0).toInt) (b := 0) rfl (by decide) c9
          refine lv_bipush (v := -2) hx hb dX12_step_26 (by decide) ?_
          exact rt_i FX ((fun k => match k with | 0 => (-2 : Int32) | 1 => mgoal | 2 => mgoalDays | 3 => mgoalHearer | _ => 0), (fun k => match k with | 0 => mbest | _ => fun _ => 0), (fun _ => fun _ => 0)) rfl (show 0 ≤ mgoalHearer.toInt ∧ mgoalHearer.toInt ≤ 3 by omega) (hP.sub [1, 2, 0] rfl) (hD.sub [1, 2, 0] (by decide) rfl) hS (Nat.le_of_ble_eq_true rfl) (Nat.le_of_ble_eq_true rfl) dX12_step_28
        · have c9 := k_ne (a := (u6.1 0).toInt) (b := 0) rfl (by decide) c9
          exfalso; omega
      · have c8_r := q7_1 c8
        refine lv_if_eq (tgt := 26) hx hb dX12_step_13 (by decide) (fun c10 => ?_) (fun c10 => ?_)
        · have c10 := k_eq (a := (u6.1 0).toInt) (b := 0) rfl (by decide) c10
          exfalso; omega
        · have c10 := k_ne (a := (u6.1 0).toInt) (b := 0) rfl (by decide) c10
          refine lv_aload_n hx hb dX12_step_16 rfl (lv_at hl 0 rfl) ?_
          refine lv_iconst (v := 0) hx hb dX12_step_17 (by decide) ?_
          refine lv_iload_n hx hb dX12_step_18 rfl (lv_at hl 1 rfl) ?_
          refine lv_iload_n hx hb dX12_step_19 rfl (lv_at hl 2 rfl) ?_
          have kc0 : (0 : Int32).toInt = 0 := by decide
          refine call_V (As := [.int 0, .int p1, .int p2]) (rest := []) (wr := []) FC hKn hZ (k_X12_wordBy l g h0 a1 a2 a3 a4 a6 a14 a15 a19 a20 a23 a24 a25 a26 a27 a28 mthrown mtaped msize mat mfrom mtoken mvalue mfaultKind mfaultPlace mgoal mgoalDays mgoalHearer mleastOrder mwordsMany mworld mbest ((0 : Int32)) p1 p2 (by omega) (by omega) (by omega) (by omega) (by omega) (by omega) (by omega) (by omega) i_mworld (by omega) (by omega) (by omega)) m_yX12_wordBy b_977 (ci := 12) rfl rfl rfl hP hD hS hA [1, 2, 0] [] rfl (by decide) rfl (by decide) (by decide) rfl hl.1 rfl (Nat.le_of_ble_eq_true rfl) dX12_step_20 ⟨(Nat.le_of_ble_eq_true rfl), (Nat.le_of_ble_eq_true rfl)⟩ ⟨(Nat.le_of_ble_eq_true rfl), (Nat.le_of_ble_eq_true rfl)⟩ (fun u11 H locs q12 hP hD hS => ?_)
          obtain ⟨q12_0, q12_1⟩ := q12
          have hP : va_P g.1 vwCl [(h0, .inr (12, [.int mthrown, .ref a1, .ref a2, .ref a3, .ref a4, .int mtaped, .ref a6, .int msize, .int mat, .int mfrom, .int mtoken, .int mvalue, .int mfaultKind, .int mfaultPlace, .ref a14, .ref a15, .int (u11.1 1), .int (u11.1 2), .int (u11.1 3), .ref a19, .ref a20, .int mleastOrder, .int mwordsMany, .ref a23, .ref a24, .ref a25, .ref a26, .ref a27, .ref a28])), (a1, .inl (g.2 0, 225, .inl mworld)), (a15, .inl (g.2 0, 2816, .inl (u11.2.1 0)))] H := hP
          have hD : va_D A [(h0, .inr (12, [.int mthrown, .ref a1, .ref a2, .ref a3, .ref a4, .int mtaped, .ref a6, .int msize, .int mat, .int mfrom, .int mtoken, .int mvalue, .int mfaultKind, .int mfaultPlace, .ref a14, .ref a15, .int (u11.1 1), .int (u11.1 2), .int (u11.1 3), .ref a19, .ref a20, .int mleastOrder, .int mwordsMany, .ref a23, .ref a24, .ref a25, .ref a26, .ref a27, .ref a28])), (a1, .inl (g.2 0, 225, .inl mworld)), (a15, .inl (g.2 0, 2816, .inl (u11.2.1 0)))] := hD
          refine W.eq (g2 := F0 m 23 ls [.int (u11.1 0)]) rfl ?_
          refine lv_goto (tgt := 28) hx hb dX12_step_23 (by decide) ?_
          exact rt_i FX ((fun k => match k with | 0 => u11.1 0 | 1 => u11.1 1 | 2 => u11.1 2 | 3 => u11.1 3 | _ => 0), (fun k => match k with | 0 => u11.2.1 0 | _ => fun _ => 0), (fun _ => fun _ => 0)) rfl (show 0 ≤ (u11.1 3).toInt ∧ (u11.1 3).toInt ≤ 3 by omega) (hP.sub [0, 1, 2] rfl) (hD.sub [0, 1, 2] (by decide) rfl) hS (Nat.le_of_ble_eq_true rfl) (Nat.le_of_ble_eq_true rfl) dX12_step_28
set_option maxRecDepth 100000 in
set_option maxHeartbeats 4000000 in
theorem k_X12_honest (l : Launch) (g : GG) (h0 : Nat) (a1 : Nat) (a2 : Nat) (a3 : Nat) (a4 : Nat) (a6 : Nat) (a14 : Nat) (a15 : Nat) (a19 : Nat) (a20 : Nat) (a23 : Nat) (a24 : Nat) (a25 : Nat) (a26 : Nat) (a27 : Nat) (a28 : Nat) (mthrown : Int32) (mtaped : Int32) (msize : Int32) (mat : Int32) (mfrom : Int32) (mtoken : Int32) (mvalue : Int32) (mfaultKind : Int32) (mfaultPlace : Int32) (mgoal : Int32) (mgoalDays : Int32) (mgoalHearer : Int32) (mleastOrder : Int32) (mwordsMany : Int32) (mworld : Nat → Int32) (mbest : Nat → Int32) (p1 : Int32) (p2 : Int32) (i_mtaped : 0 ≤ mtaped.toInt ∧ mtaped.toInt ≤ 900) (i_msize : 0 ≤ msize.toInt ∧ msize.toInt ≤ 900) (i_mat : 0 ≤ mat.toInt ∧ mat.toInt ≤ 900) (i_mfrom : 0 ≤ mfrom.toInt ∧ mfrom.toInt ≤ 900) (i_mtoken : 0 ≤ mtoken.toInt ∧ mtoken.toInt ≤ 4) (i_mvalue : 0 ≤ mvalue.toInt ∧ mvalue.toInt ≤ 99999) (i_mgoalHearer : 0 ≤ mgoalHearer.toInt ∧ mgoalHearer.toInt ≤ 3) (i_mwordsMany : 0 ≤ mwordsMany.toInt ∧ mwordsMany.toInt ≤ 10) (i_mworld : wod mworld) : Ct l g yX12_honest cX12_honest 3 (some .int) { frames := 9, cells := 0, slots := 0, locals := 220 } [.ref h0, .int p1, .int p2] [(h0, .inr (12, [.int mthrown, .ref a1, .ref a2, .ref a3, .ref a4, .int mtaped, .ref a6, .int msize, .int mat, .int mfrom, .int mtoken, .int mvalue, .int mfaultKind, .int mfaultPlace, .ref a14, .ref a15, .int mgoal, .int mgoalDays, .int mgoalHearer, .ref a19, .ref a20, .int mleastOrder, .int mwordsMany, .ref a23, .ref a24, .ref a25, .ref a26, .ref a27, .ref a28])), (a1, .inl (g.2 0, 225, .inl mworld)), (a15, .inl (g.2 0, 2816, .inl mbest))] (S := (Nat → Int32) × (Nat → Nat → Int32) × (Nat → Nat → Int64)) (fun u => some (.int (u.1 0))) (fun u => (0 ≤ (u.1 3).toInt ∧ (u.1 3).toInt ≤ 3)) (fun u => [(h0, .inr (12, [.int mthrown, .ref a1, .ref a2, .ref a3, .ref a4, .int mtaped, .ref a6, .int msize, .int mat, .int mfrom, .int mtoken, .int mvalue, .int mfaultKind, .int mfaultPlace, .ref a14, .ref a15, .int (u.1 1), .int (u.1 2), .int (u.1 3), .ref a19, .ref a20, .int mleastOrder, .int mwordsMany, .ref a23, .ref a24, .ref a25, .ref a26, .ref a27, .ref a28])), (a1, .inl (g.2 0, 225, .inl mworld)), (a15, .inl (g.2 0, 2816, .inl (u.2.1 0)))]) := by
  refine Ct.of (by decide) (Nat.le_of_ble_eq_true rfl) ?_
  intro p e s m below meth c A ls FX hP hD hS hl
  obtain ⟨FC, hr, hlk, hKn, hA, hnm, hZ⟩ := id FX
  have FC : CallFix p m c cX12_honest 3 s _ BIG RX12 := FC
  obtain ⟨hx, hb, hml, hown, hB⟩ := id FC
  have hl : lv_has ls 3 [(0, .ref h0), (1, .int p1), (2, .int p2)] := hl
  refine lv_aload_n hx hb dX12_honest_0 rfl (lv_at hl 0 rfl) ?_
  refine lv_iload_n hx hb dX12_honest_1 rfl (lv_at hl 1 rfl) ?_
  refine call_V (As := [.int p1]) (rest := []) (wr := [(a15, .inl (g.2 0, 2816, .inl mbest))]) FC hKn hZ (k_X12_isHearer l g h0 a1 a2 a3 a4 a6 a14 a15 a19 a20 a23 a24 a25 a26 a27 a28 mthrown mtaped msize mat mfrom mtoken mvalue mfaultKind mfaultPlace mgoal mgoalDays mgoalHearer mleastOrder mwordsMany mworld p1 (by omega) (by omega) (by omega) (by omega) (by omega) (by omega) (by omega) (by omega) i_mworld) m_yX12_isHearer b_881 (ci := 12) rfl rfl rfl hP hD hS hA [0, 1] [2] rfl (by decide) rfl (by decide) (by decide) rfl hl.1 rfl (Nat.le_of_ble_eq_true rfl) dX12_honest_2 ⟨(Nat.le_of_ble_eq_true rfl), (Nat.le_of_ble_eq_true rfl)⟩ ⟨(Nat.le_of_ble_eq_true rfl), (Nat.le_of_ble_eq_true rfl)⟩ (fun u1 H locs q2 hP hD hS => ?_)
  obtain ⟨q2_0, q2_1⟩ := q2
  have hP : va_P g.1 vwCl [(a15, .inl (g.2 0, 2816, .inl mbest)), (h0, .inr (12, [.int mthrown, .ref a1, .ref a2, .ref a3, .ref a4, .int mtaped, .ref a6, .int msize, .int mat, .int mfrom, .int mtoken, .int mvalue, .int mfaultKind, .int mfaultPlace, .ref a14, .ref a15, .int mgoal, .int mgoalDays, .int mgoalHearer, .ref a19, .ref a20, .int mleastOrder, .int mwordsMany, .ref a23, .ref a24, .ref a25, .ref a26, .ref a27, .ref a28])), (a1, .inl (g.2 0, 225, .inl mworld))] H := hP
  have hD : va_D A [(a15, .inl (g.2 0, 2816, .inl mbest)), (h0, .inr (12, [.int mthrown, .ref a1, .ref a2, .ref a3, .ref a4, .int mtaped, .ref a6, .int msize, .int mat, .int mfrom, .int mtoken, .int mvalue, .int mfaultKind, .int mfaultPlace, .ref a14, .ref a15, .int mgoal, .int mgoalDays, .int mgoalHearer, .ref a19, .ref a20, .int mleastOrder, .int mwordsMany, .ref a23, .ref a24, .ref a25, .ref a26, .ref a27, .ref a28])), (a1, .inl (g.2 0, 225, .inl mworld))] := hD
  refine W.eq (g2 := F0 m 5 ls [.int (u1.1 0)]) rfl ?_
  rcases (show (u1.1 0).toInt = 0 ∨ (u1.1 0).toInt = 1 by omega) with c3 | c3
  · skip
    refine lv_if_eq (tgt := 26) hx hb dX12_honest_5 (by decide) (fun c4 => ?_) (fun c4 => ?_)
    · have c4 := k_eq (a := (u1.1 0).toInt) (b := 0) rfl (by decide) c4
      refine lv_bipush (v := -2) hx hb dX12_honest_26 (by decide) ?_
      exact rt_i FX ((fun k => match k with | 0 => (-2 : Int32) | 1 => mgoal | 2 => mgoalDays | 3 => mgoalHearer | _ => 0), (fun k => match k with | 0 => mbest | _ => fun _ => 0), (fun _ => fun _ => 0)) rfl (show 0 ≤ mgoalHearer.toInt ∧ mgoalHearer.toInt ≤ 3 by omega) (hP.sub [1, 2, 0] rfl) (hD.sub [1, 2, 0] (by decide) rfl) hS (Nat.le_of_ble_eq_true rfl) (Nat.le_of_ble_eq_true rfl) dX12_honest_28
    · have c4 := k_ne (a := (u1.1 0).toInt) (b := 0) rfl (by decide) c4
      exfalso; omega
  · have c3_r := q2_1 c3
    refine lv_if_eq (tgt := 26) hx hb dX12_honest_5 (by decide) (fun c5 => ?_) (fun c5 => ?_)
    · have c5 := k_eq (a := (u1.1 0).toInt) (b := 0) rfl (by decide) c5
      exfalso; omega
    · have c5 := k_ne (a := (u1.1 0).toInt) (b := 0) rfl (by decide) c5
      refine lv_aload_n hx hb dX12_honest_8 rfl (lv_at hl 0 rfl) ?_
      refine lv_iload_n hx hb dX12_honest_9 rfl (lv_at hl 2 rfl) ?_
      refine call_V (As := [.int p2]) (rest := []) (wr := [(a15, .inl (g.2 0, 2816, .inl mbest))]) FC hKn hZ (k_X12_isDay l g h0 a1 a2 a3 a4 a6 a14 a15 a19 a20 a23 a24 a25 a26 a27 a28 mthrown mtaped msize mat mfrom mtoken mvalue mfaultKind mfaultPlace mgoal mgoalDays mgoalHearer mleastOrder mwordsMany mworld p2 (by omega) (by omega) (by omega) (by omega) (by omega) (by omega) (by omega) (by omega) i_mworld) m_yX12_isDay b_976 (ci := 12) rfl rfl rfl hP hD hS hA [1, 2] [0] rfl (by decide) rfl (by decide) (by decide) rfl hl.1 rfl (Nat.le_of_ble_eq_true rfl) dX12_honest_10 ⟨(Nat.le_of_ble_eq_true rfl), (Nat.le_of_ble_eq_true rfl)⟩ ⟨(Nat.le_of_ble_eq_true rfl), (Nat.le_of_ble_eq_true rfl)⟩ (fun u6 H locs q7 hP hD hS => ?_)
      obtain ⟨q7_0, q7_1⟩ := q7
      have hP : va_P g.1 vwCl [(a15, .inl (g.2 0, 2816, .inl mbest)), (h0, .inr (12, [.int mthrown, .ref a1, .ref a2, .ref a3, .ref a4, .int mtaped, .ref a6, .int msize, .int mat, .int mfrom, .int mtoken, .int mvalue, .int mfaultKind, .int mfaultPlace, .ref a14, .ref a15, .int mgoal, .int mgoalDays, .int mgoalHearer, .ref a19, .ref a20, .int mleastOrder, .int mwordsMany, .ref a23, .ref a24, .ref a25, .ref a26, .ref a27, .ref a28])), (a1, .inl (g.2 0, 225, .inl mworld))] H := hP
      have hD : va_D A [(a15, .inl (g.2 0, 2816, .inl mbest)), (h0, .inr (12, [.int mthrown, .ref a1, .ref a2, .ref a3, .ref a4, .int mtaped, .ref a6, .int msize, .int mat, .int mfrom, .int mtoken, .int mvalue, .int mfaultKind, .int mfaultPlace, .ref a14, .ref a15, .int mgoal, .int mgoalDays, .int mgoalHearer, .ref a19, .ref a20, .int mleastOrder, .int mwordsMany, .ref a23, .ref a24, .ref a25, .ref a26, .ref a27, .ref a28])), (a1, .inl (g.2 0, 225, .inl mworld))] := hD
      refine W.eq (g2 := F0 m 13 ls [.int (u6.1 0)]) rfl ?_
      rcases (show (u6.1 0).toInt = 0 ∨ (u6.1 0).toInt = 1 by omega) with c8 | c8
      · skip
        refine lv_if_eq (tgt := 26) hx hb dX12_honest_13 (by decide) (fun c9 => ?_) (fun c9 => ?_)
        · have c9 := k_eq (a := (u6.1 0).toInt) (b := 0) rfl (by decide) c9
          refine lv_bipush (v := -2) hx hb dX12_honest_26 (by decide) ?_
          exact rt_i FX ((fun k => match k with | 0 => (-2 : Int32) | 1 => mgoal | 2 => mgoalDays | 3 => mgoalHearer | _ => 0), (fun k => match k with | 0 => mbest | _ => fun _ => 0), (fun _ => fun _ => 0)) rfl (show 0 ≤ mgoalHearer.toInt ∧ mgoalHearer.toInt ≤ 3 by omega) (hP.sub [1, 2, 0] rfl) (hD.sub [1, 2, 0] (by decide) rfl) hS (Nat.le_of_ble_eq_true rfl) (Nat.le_of_ble_eq_true rfl) dX12_honest_28
        · have c9 := k_ne (a := (u6.1 0).toInt) (b := 0) rfl (by decide) c9
          exfalso; omega
      · have c8_r := q7_1 c8
        refine lv_if_eq (tgt := 26) hx hb dX12_honest_13 (by decide) (fun c10 => ?_) (fun c10 => ?_)
        · have c10 := k_eq (a := (u6.1 0).toInt) (b := 0) rfl (by decide) c10
          exfalso; omega
        · have c10 := k_ne (a := (u6.1 0).toInt) (b := 0) rfl (by decide) c10
          refine lv_aload_n hx hb dX12_honest_16 rfl (lv_at hl 0 rfl) ?_
          refine lv_iconst (v := 1) hx hb dX12_honest_17 (by decide) ?_
          refine lv_iload_n hx hb dX12_honest_18 rfl (lv_at hl 1 rfl) ?_
          refine lv_iload_n hx hb dX12_honest_19 rfl (lv_at hl 2 rfl) ?_
          have kc1 : (1 : Int32).toInt = 1 := by decide
          refine call_V (As := [.int 1, .int p1, .int p2]) (rest := []) (wr := []) FC hKn hZ (k_X12_wordBy l g h0 a1 a2 a3 a4 a6 a14 a15 a19 a20 a23 a24 a25 a26 a27 a28 mthrown mtaped msize mat mfrom mtoken mvalue mfaultKind mfaultPlace mgoal mgoalDays mgoalHearer mleastOrder mwordsMany mworld mbest ((1 : Int32)) p1 p2 (by omega) (by omega) (by omega) (by omega) (by omega) (by omega) (by omega) (by omega) i_mworld (by omega) (by omega) (by omega)) m_yX12_wordBy b_977 (ci := 12) rfl rfl rfl hP hD hS hA [1, 2, 0] [] rfl (by decide) rfl (by decide) (by decide) rfl hl.1 rfl (Nat.le_of_ble_eq_true rfl) dX12_honest_20 ⟨(Nat.le_of_ble_eq_true rfl), (Nat.le_of_ble_eq_true rfl)⟩ ⟨(Nat.le_of_ble_eq_true rfl), (Nat.le_of_ble_eq_true rfl)⟩ (fun u11 H locs q12 hP hD hS => ?_)
          obtain ⟨q12_0, q12_1⟩ := q12
          have hP : va_P g.1 vwCl [(h0, .inr (12, [.int mthrown, .ref a1, .ref a2, .ref a3, .ref a4, .int mtaped, .ref a6, .int msize, .int mat, .int mfrom, .int mtoken, .int mvalue, .int mfaultKind, .int mfaultPlace, .ref a14, .ref a15, .int (u11.1 1), .int (u11.1 2), .int (u11.1 3), .ref a19, .ref a20, .int mleastOrder, .int mwordsMany, .ref a23, .ref a24, .ref a25, .ref a26, .ref a27, .ref a28])), (a1, .inl (g.2 0, 225, .inl mworld)), (a15, .inl (g.2 0, 2816, .inl (u11.2.1 0)))] H := hP
          have hD : va_D A [(h0, .inr (12, [.int mthrown, .ref a1, .ref a2, .ref a3, .ref a4, .int mtaped, .ref a6, .int msize, .int mat, .int mfrom, .int mtoken, .int mvalue, .int mfaultKind, .int mfaultPlace, .ref a14, .ref a15, .int (u11.1 1), .int (u11.1 2), .int (u11.1 3), .ref a19, .ref a20, .int mleastOrder, .int mwordsMany, .ref a23, .ref a24, .ref a25, .ref a26, .ref a27, .ref a28])), (a1, .inl (g.2 0, 225, .inl mworld)), (a15, .inl (g.2 0, 2816, .inl (u11.2.1 0)))] := hD
          refine W.eq (g2 := F0 m 23 ls [.int (u11.1 0)]) rfl ?_
          refine lv_goto (tgt := 28) hx hb dX12_honest_23 (by decide) ?_
          exact rt_i FX ((fun k => match k with | 0 => u11.1 0 | 1 => u11.1 1 | 2 => u11.1 2 | 3 => u11.1 3 | _ => 0), (fun k => match k with | 0 => u11.2.1 0 | _ => fun _ => 0), (fun _ => fun _ => 0)) rfl (show 0 ≤ (u11.1 3).toInt ∧ (u11.1 3).toInt ≤ 3 by omega) (hP.sub [0, 1, 2] rfl) (hD.sub [0, 1, 2] (by decide) rfl) hS (Nat.le_of_ble_eq_true rfl) (Nat.le_of_ble_eq_true rfl) dX12_honest_28
set_option maxRecDepth 100000 in
set_option maxHeartbeats 4000000 in
theorem k_X12_gently (l : Launch) (g : GG) (h0 : Nat) (a1 : Nat) (a2 : Nat) (a3 : Nat) (a4 : Nat) (a6 : Nat) (a14 : Nat) (a15 : Nat) (a19 : Nat) (a20 : Nat) (a23 : Nat) (a24 : Nat) (a25 : Nat) (a26 : Nat) (a27 : Nat) (a28 : Nat) (mthrown : Int32) (mtaped : Int32) (msize : Int32) (mat : Int32) (mfrom : Int32) (mtoken : Int32) (mvalue : Int32) (mfaultKind : Int32) (mfaultPlace : Int32) (mgoal : Int32) (mgoalDays : Int32) (mgoalHearer : Int32) (mleastOrder : Int32) (mwordsMany : Int32) (mworld : Nat → Int32) (mbest : Nat → Int32) (p1 : Int32) (p2 : Int32) (i_mtaped : 0 ≤ mtaped.toInt ∧ mtaped.toInt ≤ 900) (i_msize : 0 ≤ msize.toInt ∧ msize.toInt ≤ 900) (i_mat : 0 ≤ mat.toInt ∧ mat.toInt ≤ 900) (i_mfrom : 0 ≤ mfrom.toInt ∧ mfrom.toInt ≤ 900) (i_mtoken : 0 ≤ mtoken.toInt ∧ mtoken.toInt ≤ 4) (i_mvalue : 0 ≤ mvalue.toInt ∧ mvalue.toInt ≤ 99999) (i_mgoalHearer : 0 ≤ mgoalHearer.toInt ∧ mgoalHearer.toInt ≤ 3) (i_mwordsMany : 0 ≤ mwordsMany.toInt ∧ mwordsMany.toInt ≤ 10) (i_mworld : wod mworld) : Ct l g yX12_gently cX12_gently 3 (some .int) { frames := 9, cells := 0, slots := 0, locals := 220 } [.ref h0, .int p1, .int p2] [(h0, .inr (12, [.int mthrown, .ref a1, .ref a2, .ref a3, .ref a4, .int mtaped, .ref a6, .int msize, .int mat, .int mfrom, .int mtoken, .int mvalue, .int mfaultKind, .int mfaultPlace, .ref a14, .ref a15, .int mgoal, .int mgoalDays, .int mgoalHearer, .ref a19, .ref a20, .int mleastOrder, .int mwordsMany, .ref a23, .ref a24, .ref a25, .ref a26, .ref a27, .ref a28])), (a1, .inl (g.2 0, 225, .inl mworld)), (a15, .inl (g.2 0, 2816, .inl mbest))] (S := (Nat → Int32) × (Nat → Nat → Int32) × (Nat → Nat → Int64)) (fun u => some (.int (u.1 0))) (fun u => (0 ≤ (u.1 3).toInt ∧ (u.1 3).toInt ≤ 3)) (fun u => [(h0, .inr (12, [.int mthrown, .ref a1, .ref a2, .ref a3, .ref a4, .int mtaped, .ref a6, .int msize, .int mat, .int mfrom, .int mtoken, .int mvalue, .int mfaultKind, .int mfaultPlace, .ref a14, .ref a15, .int (u.1 1), .int (u.1 2), .int (u.1 3), .ref a19, .ref a20, .int mleastOrder, .int mwordsMany, .ref a23, .ref a24, .ref a25, .ref a26, .ref a27, .ref a28])), (a1, .inl (g.2 0, 225, .inl mworld)), (a15, .inl (g.2 0, 2816, .inl (u.2.1 0)))]) := by
  refine Ct.of (by decide) (Nat.le_of_ble_eq_true rfl) ?_
  intro p e s m below meth c A ls FX hP hD hS hl
  obtain ⟨FC, hr, hlk, hKn, hA, hnm, hZ⟩ := id FX
  have FC : CallFix p m c cX12_gently 3 s _ BIG RX12 := FC
  obtain ⟨hx, hb, hml, hown, hB⟩ := id FC
  have hl : lv_has ls 3 [(0, .ref h0), (1, .int p1), (2, .int p2)] := hl
  refine lv_aload_n hx hb dX12_gently_0 rfl (lv_at hl 0 rfl) ?_
  refine lv_iload_n hx hb dX12_gently_1 rfl (lv_at hl 1 rfl) ?_
  refine call_V (As := [.int p1]) (rest := []) (wr := [(a15, .inl (g.2 0, 2816, .inl mbest))]) FC hKn hZ (k_X12_isHearer l g h0 a1 a2 a3 a4 a6 a14 a15 a19 a20 a23 a24 a25 a26 a27 a28 mthrown mtaped msize mat mfrom mtoken mvalue mfaultKind mfaultPlace mgoal mgoalDays mgoalHearer mleastOrder mwordsMany mworld p1 (by omega) (by omega) (by omega) (by omega) (by omega) (by omega) (by omega) (by omega) i_mworld) m_yX12_isHearer b_881 (ci := 12) rfl rfl rfl hP hD hS hA [0, 1] [2] rfl (by decide) rfl (by decide) (by decide) rfl hl.1 rfl (Nat.le_of_ble_eq_true rfl) dX12_gently_2 ⟨(Nat.le_of_ble_eq_true rfl), (Nat.le_of_ble_eq_true rfl)⟩ ⟨(Nat.le_of_ble_eq_true rfl), (Nat.le_of_ble_eq_true rfl)⟩ (fun u1 H locs q2 hP hD hS => ?_)
  obtain ⟨q2_0, q2_1⟩ := q2
  have hP : va_P g.1 vwCl [(a15, .inl (g.2 0, 2816, .inl mbest)), (h0, .inr (12, [.int mthrown, .ref a1, .ref a2, .ref a3, .ref a4, .int mtaped, .ref a6, .int msize, .int mat, .int mfrom, .int mtoken, .int mvalue, .int mfaultKind, .int mfaultPlace, .ref a14, .ref a15, .int mgoal, .int mgoalDays, .int mgoalHearer, .ref a19, .ref a20, .int mleastOrder, .int mwordsMany, .ref a23, .ref a24, .ref a25, .ref a26, .ref a27, .ref a28])), (a1, .inl (g.2 0, 225, .inl mworld))] H := hP
  have hD : va_D A [(a15, .inl (g.2 0, 2816, .inl mbest)), (h0, .inr (12, [.int mthrown, .ref a1, .ref a2, .ref a3, .ref a4, .int mtaped, .ref a6, .int msize, .int mat, .int mfrom, .int mtoken, .int mvalue, .int mfaultKind, .int mfaultPlace, .ref a14, .ref a15, .int mgoal, .int mgoalDays, .int mgoalHearer, .ref a19, .ref a20, .int mleastOrder, .int mwordsMany, .ref a23, .ref a24, .ref a25, .ref a26, .ref a27, .ref a28])), (a1, .inl (g.2 0, 225, .inl mworld))] := hD
  refine W.eq (g2 := F0 m 5 ls [.int (u1.1 0)]) rfl ?_
  rcases (show (u1.1 0).toInt = 0 ∨ (u1.1 0).toInt = 1 by omega) with c3 | c3
  · skip
    refine lv_if_eq (tgt := 26) hx hb dX12_gently_5 (by decide) (fun c4 => ?_) (fun c4 => ?_)
    · have c4 := k_eq (a := (u1.1 0).toInt) (b := 0) rfl (by decide) c4
      refine lv_bipush (v := -2) hx hb dX12_gently_26 (by decide) ?_
      exact rt_i FX ((fun k => match k with | 0 => (-2 : Int32) | 1 => mgoal | 2 => mgoalDays | 3 => mgoalHearer | _ => 0), (fun k => match k with | 0 => mbest | _ => fun _ => 0), (fun _ => fun _ => 0)) rfl (show 0 ≤ mgoalHearer.toInt ∧ mgoalHearer.toInt ≤ 3 by omega) (hP.sub [1, 2, 0] rfl) (hD.sub [1, 2, 0] (by decide) rfl) hS (Nat.le_of_ble_eq_true rfl) (Nat.le_of_ble_eq_true rfl) dX12_gently_28
    · have c4 := k_ne (a := (u1.1 0).toInt) (b := 0) rfl (by decide) c4
      exfalso; omega
  · have c3_r := q2_1 c3
    refine lv_if_eq (tgt := 26) hx hb dX12_gently_5 (by decide) (fun c5 => ?_) (fun c5 => ?_)
    · have c5 := k_eq (a := (u1.1 0).toInt) (b := 0) rfl (by decide) c5
      exfalso; omega
    · have c5 := k_ne (a := (u1.1 0).toInt) (b := 0) rfl (by decide) c5
      refine lv_aload_n hx hb dX12_gently_8 rfl (lv_at hl 0 rfl) ?_
      refine lv_iload_n hx hb dX12_gently_9 rfl (lv_at hl 2 rfl) ?_
      refine call_V (As := [.int p2]) (rest := []) (wr := [(a15, .inl (g.2 0, 2816, .inl mbest))]) FC hKn hZ (k_X12_isDay l g h0 a1 a2 a3 a4 a6 a14 a15 a19 a20 a23 a24 a25 a26 a27 a28 mthrown mtaped msize mat mfrom mtoken mvalue mfaultKind mfaultPlace mgoal mgoalDays mgoalHearer mleastOrder mwordsMany mworld p2 (by omega) (by omega) (by omega) (by omega) (by omega) (by omega) (by omega) (by omega) i_mworld) m_yX12_isDay b_976 (ci := 12) rfl rfl rfl hP hD hS hA [1, 2] [0] rfl (by decide) rfl (by decide) (by decide) rfl hl.1 rfl (Nat.le_of_ble_eq_true rfl) dX12_gently_10 ⟨(Nat.le_of_ble_eq_true rfl), (Nat.le_of_ble_eq_true rfl)⟩ ⟨(Nat.le_of_ble_eq_true rfl), (Nat.le_of_ble_eq_true rfl)⟩ (fun u6 H locs q7 hP hD hS => ?_)
      obtain ⟨q7_0, q7_1⟩ := q7
      have hP : va_P g.1 vwCl [(a15, .inl (g.2 0, 2816, .inl mbest)), (h0, .inr (12, [.int mthrown, .ref a1, .ref a2, .ref a3, .ref a4, .int mtaped, .ref a6, .int msize, .int mat, .int mfrom, .int mtoken, .int mvalue, .int mfaultKind, .int mfaultPlace, .ref a14, .ref a15, .int mgoal, .int mgoalDays, .int mgoalHearer, .ref a19, .ref a20, .int mleastOrder, .int mwordsMany, .ref a23, .ref a24, .ref a25, .ref a26, .ref a27, .ref a28])), (a1, .inl (g.2 0, 225, .inl mworld))] H := hP
      have hD : va_D A [(a15, .inl (g.2 0, 2816, .inl mbest)), (h0, .inr (12, [.int mthrown, .ref a1, .ref a2, .ref a3, .ref a4, .int mtaped, .ref a6, .int msize, .int mat, .int mfrom, .int mtoken, .int mvalue, .int mfaultKind, .int mfaultPlace, .ref a14, .ref a15, .int mgoal, .int mgoalDays, .int mgoalHearer, .ref a19, .ref a20, .int mleastOrder, .int mwordsMany, .ref a23, .ref a24, .ref a25, .ref a26, .ref a27, .ref a28])), (a1, .inl (g.2 0, 225, .inl mworld))] := hD
      refine W.eq (g2 := F0 m 13 ls [.int (u6.1 0)]) rfl ?_
      rcases (show (u6.1 0).toInt = 0 ∨ (u6.1 0).toInt = 1 by omega) with c8 | c8
      · skip
        refine lv_if_eq (tgt := 26) hx hb dX12_gently_13 (by decide) (fun c9 => ?_) (fun c9 => ?_)
        · have c9 := k_eq (a := (u6.1 0).toInt) (b := 0) rfl (by decide) c9
          refine lv_bipush (v := -2) hx hb dX12_gently_26 (by decide) ?_
          exact rt_i FX ((fun k => match k with | 0 => (-2 : Int32) | 1 => mgoal | 2 => mgoalDays | 3 => mgoalHearer | _ => 0), (fun k => match k with | 0 => mbest | _ => fun _ => 0), (fun _ => fun _ => 0)) rfl (show 0 ≤ mgoalHearer.toInt ∧ mgoalHearer.toInt ≤ 3 by omega) (hP.sub [1, 2, 0] rfl) (hD.sub [1, 2, 0] (by decide) rfl) hS (Nat.le_of_ble_eq_true rfl) (Nat.le_of_ble_eq_true rfl) dX12_gently_28
        · have c9 := k_ne (a := (u6.1 0).toInt) (b := 0) rfl (by decide) c9
          exfalso; omega
      · have c8_r := q7_1 c8
        refine lv_if_eq (tgt := 26) hx hb dX12_gently_13 (by decide) (fun c10 => ?_) (fun c10 => ?_)
        · have c10 := k_eq (a := (u6.1 0).toInt) (b := 0) rfl (by decide) c10
          exfalso; omega
        · have c10 := k_ne (a := (u6.1 0).toInt) (b := 0) rfl (by decide) c10
          refine lv_aload_n hx hb dX12_gently_16 rfl (lv_at hl 0 rfl) ?_
          refine lv_iconst (v := 2) hx hb dX12_gently_17 (by decide) ?_
          refine lv_iload_n hx hb dX12_gently_18 rfl (lv_at hl 1 rfl) ?_
          refine lv_iload_n hx hb dX12_gently_19 rfl (lv_at hl 2 rfl) ?_
          have kc2 : (2 : Int32).toInt = 2 := by decide
          refine call_V (As := [.int 2, .int p1, .int p2]) (rest := []) (wr := []) FC hKn hZ (k_X12_wordBy l g h0 a1 a2 a3 a4 a6 a14 a15 a19 a20 a23 a24 a25 a26 a27 a28 mthrown mtaped msize mat mfrom mtoken mvalue mfaultKind mfaultPlace mgoal mgoalDays mgoalHearer mleastOrder mwordsMany mworld mbest ((2 : Int32)) p1 p2 (by omega) (by omega) (by omega) (by omega) (by omega) (by omega) (by omega) (by omega) i_mworld (by omega) (by omega) (by omega)) m_yX12_wordBy b_977 (ci := 12) rfl rfl rfl hP hD hS hA [1, 2, 0] [] rfl (by decide) rfl (by decide) (by decide) rfl hl.1 rfl (Nat.le_of_ble_eq_true rfl) dX12_gently_20 ⟨(Nat.le_of_ble_eq_true rfl), (Nat.le_of_ble_eq_true rfl)⟩ ⟨(Nat.le_of_ble_eq_true rfl), (Nat.le_of_ble_eq_true rfl)⟩ (fun u11 H locs q12 hP hD hS => ?_)
          obtain ⟨q12_0, q12_1⟩ := q12
          have hP : va_P g.1 vwCl [(h0, .inr (12, [.int mthrown, .ref a1, .ref a2, .ref a3, .ref a4, .int mtaped, .ref a6, .int msize, .int mat, .int mfrom, .int mtoken, .int mvalue, .int mfaultKind, .int mfaultPlace, .ref a14, .ref a15, .int (u11.1 1), .int (u11.1 2), .int (u11.1 3), .ref a19, .ref a20, .int mleastOrder, .int mwordsMany, .ref a23, .ref a24, .ref a25, .ref a26, .ref a27, .ref a28])), (a1, .inl (g.2 0, 225, .inl mworld)), (a15, .inl (g.2 0, 2816, .inl (u11.2.1 0)))] H := hP
          have hD : va_D A [(h0, .inr (12, [.int mthrown, .ref a1, .ref a2, .ref a3, .ref a4, .int mtaped, .ref a6, .int msize, .int mat, .int mfrom, .int mtoken, .int mvalue, .int mfaultKind, .int mfaultPlace, .ref a14, .ref a15, .int (u11.1 1), .int (u11.1 2), .int (u11.1 3), .ref a19, .ref a20, .int mleastOrder, .int mwordsMany, .ref a23, .ref a24, .ref a25, .ref a26, .ref a27, .ref a28])), (a1, .inl (g.2 0, 225, .inl mworld)), (a15, .inl (g.2 0, 2816, .inl (u11.2.1 0)))] := hD
          refine W.eq (g2 := F0 m 23 ls [.int (u11.1 0)]) rfl ?_
          refine lv_goto (tgt := 28) hx hb dX12_gently_23 (by decide) ?_
          exact rt_i FX ((fun k => match k with | 0 => u11.1 0 | 1 => u11.1 1 | 2 => u11.1 2 | 3 => u11.1 3 | _ => 0), (fun k => match k with | 0 => u11.2.1 0 | _ => fun _ => 0), (fun _ => fun _ => 0)) rfl (show 0 ≤ (u11.1 3).toInt ∧ (u11.1 3).toInt ≤ 3 by omega) (hP.sub [0, 1, 2] rfl) (hD.sub [0, 1, 2] (by decide) rfl) hS (Nat.le_of_ble_eq_true rfl) (Nat.le_of_ble_eq_true rfl) dX12_gently_28
set_option maxRecDepth 100000 in
set_option maxHeartbeats 4000000 in
theorem k_X12_tenderly (l : Launch) (g : GG) (h0 : Nat) (a1 : Nat) (a2 : Nat) (a3 : Nat) (a4 : Nat) (a6 : Nat) (a14 : Nat) (a15 : Nat) (a19 : Nat) (a20 : Nat) (a23 : Nat) (a24 : Nat) (a25 : Nat) (a26 : Nat) (a27 : Nat) (a28 : Nat) (mthrown : Int32) (mtaped : Int32) (msize : Int32) (mat : Int32) (mfrom : Int32) (mtoken : Int32) (mvalue : Int32) (mfaultKind : Int32) (mfaultPlace : Int32) (mgoal : Int32) (mgoalDays : Int32) (mgoalHearer : Int32) (mleastOrder : Int32) (mwordsMany : Int32) (mworld : Nat → Int32) (mbest : Nat → Int32) (p1 : Int32) (p2 : Int32) (i_mtaped : 0 ≤ mtaped.toInt ∧ mtaped.toInt ≤ 900) (i_msize : 0 ≤ msize.toInt ∧ msize.toInt ≤ 900) (i_mat : 0 ≤ mat.toInt ∧ mat.toInt ≤ 900) (i_mfrom : 0 ≤ mfrom.toInt ∧ mfrom.toInt ≤ 900) (i_mtoken : 0 ≤ mtoken.toInt ∧ mtoken.toInt ≤ 4) (i_mvalue : 0 ≤ mvalue.toInt ∧ mvalue.toInt ≤ 99999) (i_mgoalHearer : 0 ≤ mgoalHearer.toInt ∧ mgoalHearer.toInt ≤ 3) (i_mwordsMany : 0 ≤ mwordsMany.toInt ∧ mwordsMany.toInt ≤ 10) (i_mworld : wod mworld) : Ct l g yX12_tenderly cX12_tenderly 3 (some .int) { frames := 9, cells := 0, slots := 0, locals := 220 } [.ref h0, .int p1, .int p2] [(h0, .inr (12, [.int mthrown, .ref a1, .ref a2, .ref a3, .ref a4, .int mtaped, .ref a6, .int msize, .int mat, .int mfrom, .int mtoken, .int mvalue, .int mfaultKind, .int mfaultPlace, .ref a14, .ref a15, .int mgoal, .int mgoalDays, .int mgoalHearer, .ref a19, .ref a20, .int mleastOrder, .int mwordsMany, .ref a23, .ref a24, .ref a25, .ref a26, .ref a27, .ref a28])), (a1, .inl (g.2 0, 225, .inl mworld)), (a15, .inl (g.2 0, 2816, .inl mbest))] (S := (Nat → Int32) × (Nat → Nat → Int32) × (Nat → Nat → Int64)) (fun u => some (.int (u.1 0))) (fun u => (0 ≤ (u.1 3).toInt ∧ (u.1 3).toInt ≤ 3)) (fun u => [(h0, .inr (12, [.int mthrown, .ref a1, .ref a2, .ref a3, .ref a4, .int mtaped, .ref a6, .int msize, .int mat, .int mfrom, .int mtoken, .int mvalue, .int mfaultKind, .int mfaultPlace, .ref a14, .ref a15, .int (u.1 1), .int (u.1 2), .int (u.1 3), .ref a19, .ref a20, .int mleastOrder, .int mwordsMany, .ref a23, .ref a24, .ref a25, .ref a26, .ref a27, .ref a28])), (a1, .inl (g.2 0, 225, .inl mworld)), (a15, .inl (g.2 0, 2816, .inl (u.2.1 0)))]) := by
  refine Ct.of (by decide) (Nat.le_of_ble_eq_true rfl) ?_
  intro p e s m below meth c A ls FX hP hD hS hl
  obtain ⟨FC, hr, hlk, hKn, hA, hnm, hZ⟩ := id FX
  have FC : CallFix p m c cX12_tenderly 3 s _ BIG RX12 := FC
  obtain ⟨hx, hb, hml, hown, hB⟩ := id FC
  have hl : lv_has ls 3 [(0, .ref h0), (1, .int p1), (2, .int p2)] := hl
  refine lv_aload_n hx hb dX12_tenderly_0 rfl (lv_at hl 0 rfl) ?_
  refine lv_iload_n hx hb dX12_tenderly_1 rfl (lv_at hl 1 rfl) ?_
  refine call_V (As := [.int p1]) (rest := []) (wr := [(a15, .inl (g.2 0, 2816, .inl mbest))]) FC hKn hZ (k_X12_isHearer l g h0 a1 a2 a3 a4 a6 a14 a15 a19 a20 a23 a24 a25 a26 a27 a28 mthrown mtaped msize mat mfrom mtoken mvalue mfaultKind mfaultPlace mgoal mgoalDays mgoalHearer mleastOrder mwordsMany mworld p1 (by omega) (by omega) (by omega) (by omega) (by omega) (by omega) (by omega) (by omega) i_mworld) m_yX12_isHearer b_881 (ci := 12) rfl rfl rfl hP hD hS hA [0, 1] [2] rfl (by decide) rfl (by decide) (by decide) rfl hl.1 rfl (Nat.le_of_ble_eq_true rfl) dX12_tenderly_2 ⟨(Nat.le_of_ble_eq_true rfl), (Nat.le_of_ble_eq_true rfl)⟩ ⟨(Nat.le_of_ble_eq_true rfl), (Nat.le_of_ble_eq_true rfl)⟩ (fun u1 H locs q2 hP hD hS => ?_)
  obtain ⟨q2_0, q2_1⟩ := q2
  have hP : va_P g.1 vwCl [(a15, .inl (g.2 0, 2816, .inl mbest)), (h0, .inr (12, [.int mthrown, .ref a1, .ref a2, .ref a3, .ref a4, .int mtaped, .ref a6, .int msize, .int mat, .int mfrom, .int mtoken, .int mvalue, .int mfaultKind, .int mfaultPlace, .ref a14, .ref a15, .int mgoal, .int mgoalDays, .int mgoalHearer, .ref a19, .ref a20, .int mleastOrder, .int mwordsMany, .ref a23, .ref a24, .ref a25, .ref a26, .ref a27, .ref a28])), (a1, .inl (g.2 0, 225, .inl mworld))] H := hP
  have hD : va_D A [(a15, .inl (g.2 0, 2816, .inl mbest)), (h0, .inr (12, [.int mthrown, .ref a1, .ref a2, .ref a3, .ref a4, .int mtaped, .ref a6, .int msize, .int mat, .int mfrom, .int mtoken, .int mvalue, .int mfaultKind, .int mfaultPlace, .ref a14, .ref a15, .int mgoal, .int mgoalDays, .int mgoalHearer, .ref a19, .ref a20, .int mleastOrder, .int mwordsMany, .ref a23, .ref a24, .ref a25, .ref a26, .ref a27, .ref a28])), (a1, .inl (g.2 0, 225, .inl mworld))] := hD
  refine W.eq (g2 := F0 m 5 ls [.int (u1.1 0)]) rfl ?_
  rcases (show (u1.1 0).toInt = 0 ∨ (u1.1 0).toInt = 1 by omega) with c3 | c3
  · skip
    refine lv_if_eq (tgt := 26) hx hb dX12_tenderly_5 (by decide) (fun c4 => ?_) (fun c4 => ?_)
    · have c4 := k_eq (a := (u1.1 0).toInt) (b := 0) rfl (by decide) c4
      refine lv_bipush (v := -2) hx hb dX12_tenderly_26 (by decide) ?_
      exact rt_i FX ((fun k => match k with | 0 => (-2 : Int32) | 1 => mgoal | 2 => mgoalDays | 3 => mgoalHearer | _ => 0), (fun k => match k with | 0 => mbest | _ => fun _ => 0), (fun _ => fun _ => 0)) rfl (show 0 ≤ mgoalHearer.toInt ∧ mgoalHearer.toInt ≤ 3 by omega) (hP.sub [1, 2, 0] rfl) (hD.sub [1, 2, 0] (by decide) rfl) hS (Nat.le_of_ble_eq_true rfl) (Nat.le_of_ble_eq_true rfl) dX12_tenderly_28
    · have c4 := k_ne (a := (u1.1 0).toInt) (b := 0) rfl (by decide) c4
      exfalso; omega
  · have c3_r := q2_1 c3
    refine lv_if_eq (tgt := 26) hx hb dX12_tenderly_5 (by decide) (fun c5 => ?_) (fun c5 => ?_)
    · have c5 := k_eq (a := (u1.1 0).toInt) (b := 0) rfl (by decide) c5
      exfalso; omega
    · have c5 := k_ne (a := (u1.1 0).toInt) (b := 0) rfl (by decide) c5
      refine lv_aload_n hx hb dX12_tenderly_8 rfl (lv_at hl 0 rfl) ?_
      refine lv_iload_n hx hb dX12_tenderly_9 rfl (lv_at hl 2 rfl) ?_
      refine call_V (As := [.int p2]) (rest := []) (wr := [(a15, .inl (g.2 0, 2816, .inl mbest))]) FC hKn hZ (k_X12_isDay l g h0 a1 a2 a3 a4 a6 a14 a15 a19 a20 a23 a24 a25 a26 a27 a28 mthrown mtaped msize mat mfrom mtoken mvalue mfaultKind mfaultPlace mgoal mgoalDays mgoalHearer mleastOrder mwordsMany mworld p2 (by omega) (by omega) (by omega) (by omega) (by omega) (by omega) (by omega) (by omega) i_mworld) m_yX12_isDay b_976 (ci := 12) rfl rfl rfl hP hD hS hA [1, 2] [0] rfl (by decide) rfl (by decide) (by decide) rfl hl.1 rfl (Nat.le_of_ble_eq_true rfl) dX12_tenderly_10 ⟨(Nat.le_of_ble_eq_true rfl), (Nat.le_of_ble_eq_true rfl)⟩ ⟨(Nat.le_of_ble_eq_true rfl), (Nat.le_of_ble_eq_true rfl)⟩ (fun u6 H locs q7 hP hD hS => ?_)
      obtain ⟨q7_0, q7_1⟩ := q7
      have hP : va_P g.1 vwCl [(a15, .inl (g.2 0, 2816, .inl mbest)), (h0, .inr (12, [.int mthrown, .ref a1, .ref a2, .ref a3, .ref a4, .int mtaped, .ref a6, .int msize, .int mat, .int mfrom, .int mtoken, .int mvalue, .int mfaultKind, .int mfaultPlace, .ref a14, .ref a15, .int mgoal, .int mgoalDays, .int mgoalHearer, .ref a19, .ref a20, .int mleastOrder, .int mwordsMany, .ref a23, .ref a24, .ref a25, .ref a26, .ref a27, .ref a28])), (a1, .inl (g.2 0, 225, .inl mworld))] H := hP
      have hD : va_D A [(a15, .inl (g.2 0, 2816, .inl mbest)), (h0, .inr (12, [.int mthrown, .ref a1, .ref a2, .ref a3, .ref a4, .int mtaped, .ref a6, .int msize, .int mat, .int mfrom, .int mtoken, .int mvalue, .int mfaultKind, .int mfaultPlace, .ref a14, .ref a15, .int mgoal, .int mgoalDays, .int mgoalHearer, .ref a19, .ref a20, .int mleastOrder, .int mwordsMany, .ref a23, .ref a24, .ref a25, .ref a26, .ref a27, .ref a28])), (a1, .inl (g.2 0, 225, .inl mworld))] := hD
      refine W.eq (g2 := F0 m 13 ls [.int (u6.1 0)]) rfl ?_
      rcases (show (u6.1 0).toInt = 0 ∨ (u6.1 0).toInt = 1 by omega) with c8 | c8
      · skip
        refine lv_if_eq (tgt := 26) hx hb dX12_tenderly_13 (by decide) (fun c9 => ?_) (fun c9 => ?_)
        · have c9 := k_eq (a := (u6.1 0).toInt) (b := 0) rfl (by decide) c9
          refine lv_bipush (v := -2) hx hb dX12_tenderly_26 (by decide) ?_
          exact rt_i FX ((fun k => match k with | 0 => (-2 : Int32) | 1 => mgoal | 2 => mgoalDays | 3 => mgoalHearer | _ => 0), (fun k => match k with | 0 => mbest | _ => fun _ => 0), (fun _ => fun _ => 0)) rfl (show 0 ≤ mgoalHearer.toInt ∧ mgoalHearer.toInt ≤ 3 by omega) (hP.sub [1, 2, 0] rfl) (hD.sub [1, 2, 0] (by decide) rfl) hS (Nat.le_of_ble_eq_true rfl) (Nat.le_of_ble_eq_true rfl) dX12_tenderly_28
        · have c9 := k_ne (a := (u6.1 0).toInt) (b := 0) rfl (by decide) c9
          exfalso; omega
      · have c8_r := q7_1 c8
        refine lv_if_eq (tgt := 26) hx hb dX12_tenderly_13 (by decide) (fun c10 => ?_) (fun c10 => ?_)
        · have c10 := k_eq (a := (u6.1 0).toInt) (b := 0) rfl (by decide) c10
          exfalso; omega
        · have c10 := k_ne (a := (u6.1 0).toInt) (b := 0) rfl (by decide) c10
          refine lv_aload_n hx hb dX12_tenderly_16 rfl (lv_at hl 0 rfl) ?_
          refine lv_iconst (v := 5) hx hb dX12_tenderly_17 (by decide) ?_
          refine lv_iload_n hx hb dX12_tenderly_18 rfl (lv_at hl 1 rfl) ?_
          refine lv_iload_n hx hb dX12_tenderly_19 rfl (lv_at hl 2 rfl) ?_
          have kc5 : (5 : Int32).toInt = 5 := by decide
          refine call_V (As := [.int 5, .int p1, .int p2]) (rest := []) (wr := []) FC hKn hZ (k_X12_wordBy l g h0 a1 a2 a3 a4 a6 a14 a15 a19 a20 a23 a24 a25 a26 a27 a28 mthrown mtaped msize mat mfrom mtoken mvalue mfaultKind mfaultPlace mgoal mgoalDays mgoalHearer mleastOrder mwordsMany mworld mbest ((5 : Int32)) p1 p2 (by omega) (by omega) (by omega) (by omega) (by omega) (by omega) (by omega) (by omega) i_mworld (by omega) (by omega) (by omega)) m_yX12_wordBy b_977 (ci := 12) rfl rfl rfl hP hD hS hA [1, 2, 0] [] rfl (by decide) rfl (by decide) (by decide) rfl hl.1 rfl (Nat.le_of_ble_eq_true rfl) dX12_tenderly_20 ⟨(Nat.le_of_ble_eq_true rfl), (Nat.le_of_ble_eq_true rfl)⟩ ⟨(Nat.le_of_ble_eq_true rfl), (Nat.le_of_ble_eq_true rfl)⟩ (fun u11 H locs q12 hP hD hS => ?_)
          obtain ⟨q12_0, q12_1⟩ := q12
          have hP : va_P g.1 vwCl [(h0, .inr (12, [.int mthrown, .ref a1, .ref a2, .ref a3, .ref a4, .int mtaped, .ref a6, .int msize, .int mat, .int mfrom, .int mtoken, .int mvalue, .int mfaultKind, .int mfaultPlace, .ref a14, .ref a15, .int (u11.1 1), .int (u11.1 2), .int (u11.1 3), .ref a19, .ref a20, .int mleastOrder, .int mwordsMany, .ref a23, .ref a24, .ref a25, .ref a26, .ref a27, .ref a28])), (a1, .inl (g.2 0, 225, .inl mworld)), (a15, .inl (g.2 0, 2816, .inl (u11.2.1 0)))] H := hP
          have hD : va_D A [(h0, .inr (12, [.int mthrown, .ref a1, .ref a2, .ref a3, .ref a4, .int mtaped, .ref a6, .int msize, .int mat, .int mfrom, .int mtoken, .int mvalue, .int mfaultKind, .int mfaultPlace, .ref a14, .ref a15, .int (u11.1 1), .int (u11.1 2), .int (u11.1 3), .ref a19, .ref a20, .int mleastOrder, .int mwordsMany, .ref a23, .ref a24, .ref a25, .ref a26, .ref a27, .ref a28])), (a1, .inl (g.2 0, 225, .inl mworld)), (a15, .inl (g.2 0, 2816, .inl (u11.2.1 0)))] := hD
          refine W.eq (g2 := F0 m 23 ls [.int (u11.1 0)]) rfl ?_
          refine lv_goto (tgt := 28) hx hb dX12_tenderly_23 (by decide) ?_
          exact rt_i FX ((fun k => match k with | 0 => u11.1 0 | 1 => u11.1 1 | 2 => u11.1 2 | 3 => u11.1 3 | _ => 0), (fun k => match k with | 0 => u11.2.1 0 | _ => fun _ => 0), (fun _ => fun _ => 0)) rfl (show 0 ≤ (u11.1 3).toInt ∧ (u11.1 3).toInt ≤ 3 by omega) (hP.sub [0, 1, 2] rfl) (hD.sub [0, 1, 2] (by decide) rfl) hS (Nat.le_of_ble_eq_true rfl) (Nat.le_of_ble_eq_true rfl) dX12_tenderly_28
set_option maxRecDepth 100000 in
set_option maxHeartbeats 4000000 in
theorem k_X12_fewest (l : Launch) (g : GG) (h0 : Nat) (a1 : Nat) (a2 : Nat) (a3 : Nat) (a4 : Nat) (a6 : Nat) (a14 : Nat) (a15 : Nat) (a19 : Nat) (a20 : Nat) (a23 : Nat) (a24 : Nat) (a25 : Nat) (a26 : Nat) (a27 : Nat) (a28 : Nat) (mthrown : Int32) (mtaped : Int32) (msize : Int32) (mat : Int32) (mfrom : Int32) (mtoken : Int32) (mvalue : Int32) (mfaultKind : Int32) (mfaultPlace : Int32) (mgoal : Int32) (mgoalDays : Int32) (mgoalHearer : Int32) (mleastOrder : Int32) (mwordsMany : Int32) (mworld : Nat → Int32) (mbest : Nat → Int32) (i_mtaped : 0 ≤ mtaped.toInt ∧ mtaped.toInt ≤ 900) (i_msize : 0 ≤ msize.toInt ∧ msize.toInt ≤ 900) (i_mat : 0 ≤ mat.toInt ∧ mat.toInt ≤ 900) (i_mfrom : 0 ≤ mfrom.toInt ∧ mfrom.toInt ≤ 900) (i_mtoken : 0 ≤ mtoken.toInt ∧ mtoken.toInt ≤ 4) (i_mvalue : 0 ≤ mvalue.toInt ∧ mvalue.toInt ≤ 99999) (i_mgoalHearer : 0 ≤ mgoalHearer.toInt ∧ mgoalHearer.toInt ≤ 3) (i_mwordsMany : 0 ≤ mwordsMany.toInt ∧ mwordsMany.toInt ≤ 10) (i_mworld : wod mworld) : Ct l g yX12_fewest cX12_fewest 1 (some .int) { frames := 8, cells := 0, slots := 0, locals := 193 } [.ref h0] [(h0, .inr (12, [.int mthrown, .ref a1, .ref a2, .ref a3, .ref a4, .int mtaped, .ref a6, .int msize, .int mat, .int mfrom, .int mtoken, .int mvalue, .int mfaultKind, .int mfaultPlace, .ref a14, .ref a15, .int mgoal, .int mgoalDays, .int mgoalHearer, .ref a19, .ref a20, .int mleastOrder, .int mwordsMany, .ref a23, .ref a24, .ref a25, .ref a26, .ref a27, .ref a28])), (a1, .inl (g.2 0, 225, .inl mworld)), (a15, .inl (g.2 0, 2816, .inl mbest))] (S := (Nat → Int32) × (Nat → Nat → Int32) × (Nat → Nat → Int64)) (fun u => some (.int (u.1 0))) (fun u => (0 ≤ (u.1 3).toInt ∧ (u.1 3).toInt ≤ 3)) (fun u => [(h0, .inr (12, [.int mthrown, .ref a1, .ref a2, .ref a3, .ref a4, .int mtaped, .ref a6, .int msize, .int mat, .int mfrom, .int mtoken, .int mvalue, .int mfaultKind, .int mfaultPlace, .ref a14, .ref a15, .int (u.1 1), .int (u.1 2), .int (u.1 3), .ref a19, .ref a20, .int mleastOrder, .int mwordsMany, .ref a23, .ref a24, .ref a25, .ref a26, .ref a27, .ref a28])), (a1, .inl (g.2 0, 225, .inl mworld)), (a15, .inl (g.2 0, 2816, .inl (u.2.1 0)))]) := by
  refine Ct.of (by decide) (Nat.le_of_ble_eq_true rfl) ?_
  intro p e s m below meth c A ls FX hP hD hS hl
  obtain ⟨FC, hr, hlk, hKn, hA, hnm, hZ⟩ := id FX
  have FC : CallFix p m c cX12_fewest 1 s _ BIG RX12 := FC
  obtain ⟨hx, hb, hml, hown, hB⟩ := id FC
  have hl : lv_has ls 1 [(0, .ref h0)] := hl
  refine lv_aload_n hx hb dX12_fewest_0 rfl (lv_at hl 0 rfl) ?_
  refine call_V (As := []) (rest := []) (wr := [(a15, .inl (g.2 0, 2816, .inl mbest))]) FC hKn hZ (k_X12_isDesk l g h0 a1 a2 a3 a4 a6 a14 a15 a19 a20 a23 a24 a25 a26 a27 a28 mthrown mtaped msize mat mfrom mtoken mvalue mfaultKind mfaultPlace mgoal mgoalDays mgoalHearer mleastOrder mwordsMany mworld (by omega) (by omega) (by omega) (by omega) (by omega) (by omega) (by omega) (by omega) i_mworld) m_yX12_isDesk b_805 (ci := 12) rfl rfl rfl hP hD hS hA [0, 1] [2] rfl (by decide) rfl (by decide) (by decide) rfl hl.1 rfl (Nat.le_of_ble_eq_true rfl) dX12_fewest_1 ⟨(Nat.le_of_ble_eq_true rfl), (Nat.le_of_ble_eq_true rfl)⟩ ⟨(Nat.le_of_ble_eq_true rfl), (Nat.le_of_ble_eq_true rfl)⟩ (fun u1 H locs q2 hP hD hS => ?_)
  obtain ⟨q2_0, q2_1⟩ := q2
  have hP : va_P g.1 vwCl [(a15, .inl (g.2 0, 2816, .inl mbest)), (h0, .inr (12, [.int mthrown, .ref a1, .ref a2, .ref a3, .ref a4, .int mtaped, .ref a6, .int msize, .int mat, .int mfrom, .int mtoken, .int mvalue, .int mfaultKind, .int mfaultPlace, .ref a14, .ref a15, .int mgoal, .int mgoalDays, .int mgoalHearer, .ref a19, .ref a20, .int mleastOrder, .int mwordsMany, .ref a23, .ref a24, .ref a25, .ref a26, .ref a27, .ref a28])), (a1, .inl (g.2 0, 225, .inl mworld))] H := hP
  have hD : va_D A [(a15, .inl (g.2 0, 2816, .inl mbest)), (h0, .inr (12, [.int mthrown, .ref a1, .ref a2, .ref a3, .ref a4, .int mtaped, .ref a6, .int msize, .int mat, .int mfrom, .int mtoken, .int mvalue, .int mfaultKind, .int mfaultPlace, .ref a14, .ref a15, .int mgoal, .int mgoalDays, .int mgoalHearer, .ref a19, .ref a20, .int mleastOrder, .int mwordsMany, .ref a23, .ref a24, .ref a25, .ref a26, .ref a27, .ref a28])), (a1, .inl (g.2 0, 225, .inl mworld))] := hD
  refine W.eq (g2 := F0 m 4 ls [.int (u1.1 0)]) rfl ?_
  rcases (show (u1.1 0).toInt = 0 ∨ (u1.1 0).toInt = 1 by omega) with c3 | c3
  · skip
    refine lv_if_eq (tgt := 16) hx hb dX12_fewest_4 (by decide) (fun c4 => ?_) (fun c4 => ?_)
    · have c4 := k_eq (a := (u1.1 0).toInt) (b := 0) rfl (by decide) c4
      refine lv_bipush (v := -2) hx hb dX12_fewest_16 (by decide) ?_
      exact rt_i FX ((fun k => match k with | 0 => (-2 : Int32) | 1 => mgoal | 2 => mgoalDays | 3 => mgoalHearer | _ => 0), (fun k => match k with | 0 => mbest | _ => fun _ => 0), (fun _ => fun _ => 0)) rfl (show 0 ≤ mgoalHearer.toInt ∧ mgoalHearer.toInt ≤ 3 by omega) (hP.sub [1, 2, 0] rfl) (hD.sub [1, 2, 0] (by decide) rfl) hS (Nat.le_of_ble_eq_true rfl) (Nat.le_of_ble_eq_true rfl) dX12_fewest_18
    · have c4 := k_ne (a := (u1.1 0).toInt) (b := 0) rfl (by decide) c4
      exfalso; omega
  · have c3_r := q2_1 c3
    refine lv_if_eq (tgt := 16) hx hb dX12_fewest_4 (by decide) (fun c5 => ?_) (fun c5 => ?_)
    · have c5 := k_eq (a := (u1.1 0).toInt) (b := 0) rfl (by decide) c5
      exfalso; omega
    · have c5 := k_ne (a := (u1.1 0).toInt) (b := 0) rfl (by decide) c5
      refine lv_aload_n hx hb dX12_fewest_7 rfl (lv_at hl 0 rfl) ?_
      refine lv_iconst (v := 3) hx hb dX12_fewest_8 (by decide) ?_
      refine lv_iconst (v := 0) hx hb dX12_fewest_9 (by decide) ?_
      have kc3 : (3 : Int32).toInt = 3 := by decide
      have kc0 : (0 : Int32).toInt = 0 := by decide
      refine call_V (As := [.int 3, .int 0]) (rest := []) (wr := []) FC hKn hZ (k_X12_weekBy l g h0 a1 a2 a3 a4 a6 a14 a15 a19 a20 a23 a24 a25 a26 a27 a28 mthrown mtaped msize mat mfrom mtoken mvalue mfaultKind mfaultPlace mgoal mgoalDays mgoalHearer mleastOrder mwordsMany mworld mbest ((3 : Int32)) ((0 : Int32)) (by omega) (by omega) (by omega) (by omega) (by omega) (by omega) (by omega) (by omega) i_mworld (by omega) (by omega)) m_yX12_weekBy b_974 (ci := 12) rfl rfl rfl hP hD hS hA [1, 2, 0] [] rfl (by decide) rfl (by decide) (by decide) rfl hl.1 rfl (Nat.le_of_ble_eq_true rfl) dX12_fewest_10 ⟨(Nat.le_of_ble_eq_true rfl), (Nat.le_of_ble_eq_true rfl)⟩ ⟨(Nat.le_of_ble_eq_true rfl), (Nat.le_of_ble_eq_true rfl)⟩ (fun u6 H locs q7 hP hD hS => ?_)
      have q7_0 : 0 ≤ (u6.1 3).toInt ∧ (u6.1 3).toInt ≤ 3 := q7
      have hP : va_P g.1 vwCl [(h0, .inr (12, [.int mthrown, .ref a1, .ref a2, .ref a3, .ref a4, .int mtaped, .ref a6, .int msize, .int mat, .int mfrom, .int mtoken, .int mvalue, .int mfaultKind, .int mfaultPlace, .ref a14, .ref a15, .int (u6.1 1), .int (u6.1 2), .int (u6.1 3), .ref a19, .ref a20, .int mleastOrder, .int mwordsMany, .ref a23, .ref a24, .ref a25, .ref a26, .ref a27, .ref a28])), (a1, .inl (g.2 0, 225, .inl mworld)), (a15, .inl (g.2 0, 2816, .inl (u6.2.1 0)))] H := hP
      have hD : va_D A [(h0, .inr (12, [.int mthrown, .ref a1, .ref a2, .ref a3, .ref a4, .int mtaped, .ref a6, .int msize, .int mat, .int mfrom, .int mtoken, .int mvalue, .int mfaultKind, .int mfaultPlace, .ref a14, .ref a15, .int (u6.1 1), .int (u6.1 2), .int (u6.1 3), .ref a19, .ref a20, .int mleastOrder, .int mwordsMany, .ref a23, .ref a24, .ref a25, .ref a26, .ref a27, .ref a28])), (a1, .inl (g.2 0, 225, .inl mworld)), (a15, .inl (g.2 0, 2816, .inl (u6.2.1 0)))] := hD
      refine W.eq (g2 := F0 m 13 ls [.int (u6.1 0)]) rfl ?_
      refine lv_goto (tgt := 18) hx hb dX12_fewest_13 (by decide) ?_
      exact rt_i FX ((fun k => match k with | 0 => u6.1 0 | 1 => u6.1 1 | 2 => u6.1 2 | 3 => u6.1 3 | _ => 0), (fun k => match k with | 0 => u6.2.1 0 | _ => fun _ => 0), (fun _ => fun _ => 0)) rfl (show 0 ≤ (u6.1 3).toInt ∧ (u6.1 3).toInt ≤ 3 by omega) (hP.sub [0, 1, 2] rfl) (hD.sub [0, 1, 2] (by decide) rfl) hS (Nat.le_of_ble_eq_true rfl) (Nat.le_of_ble_eq_true rfl) dX12_fewest_18
set_option maxRecDepth 100000 in
set_option maxHeartbeats 4000000 in
theorem k_X12_once (l : Launch) (g : GG) (h0 : Nat) (a1 : Nat) (a2 : Nat) (a3 : Nat) (a4 : Nat) (a6 : Nat) (a14 : Nat) (a15 : Nat) (a19 : Nat) (a20 : Nat) (a23 : Nat) (a24 : Nat) (a25 : Nat) (a26 : Nat) (a27 : Nat) (a28 : Nat) (mthrown : Int32) (mtaped : Int32) (msize : Int32) (mat : Int32) (mfrom : Int32) (mtoken : Int32) (mvalue : Int32) (mfaultKind : Int32) (mfaultPlace : Int32) (mgoal : Int32) (mgoalDays : Int32) (mgoalHearer : Int32) (mleastOrder : Int32) (mwordsMany : Int32) (mworld : Nat → Int32) (p1 : Int32) (i_mtaped : 0 ≤ mtaped.toInt ∧ mtaped.toInt ≤ 900) (i_msize : 0 ≤ msize.toInt ∧ msize.toInt ≤ 900) (i_mat : 0 ≤ mat.toInt ∧ mat.toInt ≤ 900) (i_mfrom : 0 ≤ mfrom.toInt ∧ mfrom.toInt ≤ 900) (i_mtoken : 0 ≤ mtoken.toInt ∧ mtoken.toInt ≤ 4) (i_mvalue : 0 ≤ mvalue.toInt ∧ mvalue.toInt ≤ 99999) (i_mgoalHearer : 0 ≤ mgoalHearer.toInt ∧ mgoalHearer.toInt ≤ 3) (i_mwordsMany : 0 ≤ mwordsMany.toInt ∧ mwordsMany.toInt ≤ 10) (i_mworld : wod mworld) : Ct l g yX12_once cX12_once 2 (some .int) { frames := 3, cells := 0, slots := 0, locals := 72 } [.ref h0, .int p1] [(h0, .inr (12, [.int mthrown, .ref a1, .ref a2, .ref a3, .ref a4, .int mtaped, .ref a6, .int msize, .int mat, .int mfrom, .int mtoken, .int mvalue, .int mfaultKind, .int mfaultPlace, .ref a14, .ref a15, .int mgoal, .int mgoalDays, .int mgoalHearer, .ref a19, .ref a20, .int mleastOrder, .int mwordsMany, .ref a23, .ref a24, .ref a25, .ref a26, .ref a27, .ref a28])), (a1, .inl (g.2 0, 225, .inl mworld))] (S := (Nat → Int32) × (Nat → Nat → Int32) × (Nat → Nat → Int64)) (fun u => some (.int (u.1 0))) (fun u => True) (fun u => [(h0, .inr (12, [.int mthrown, .ref a1, .ref a2, .ref a3, .ref a4, .int mtaped, .ref a6, .int msize, .int mat, .int mfrom, .int mtoken, .int mvalue, .int mfaultKind, .int mfaultPlace, .ref a14, .ref a15, .int mgoal, .int mgoalDays, .int mgoalHearer, .ref a19, .ref a20, .int mleastOrder, .int mwordsMany, .ref a23, .ref a24, .ref a25, .ref a26, .ref a27, .ref a28])), (a1, .inl (g.2 0, 225, .inl mworld))]) := by
  refine Ct.of (by decide) (Nat.le_of_ble_eq_true rfl) ?_
  intro p e s m below meth c A ls FX hP hD hS hl
  obtain ⟨FC, hr, hlk, hKn, hA, hnm, hZ⟩ := id FX
  have FC : CallFix p m c cX12_once 2 s _ BIG RX12 := FC
  obtain ⟨hx, hb, hml, hown, hB⟩ := id FC
  have hl : lv_has ls 2 [(0, .ref h0), (1, .int p1)] := hl
  refine lv_aload_n hx hb dX12_once_0 rfl (lv_at hl 0 rfl) ?_
  refine lv_iload_n hx hb dX12_once_1 rfl (lv_at hl 1 rfl) ?_
  refine call_V (As := [.int p1]) (rest := []) (wr := []) FC hKn hZ (k_X12_isHearer l g h0 a1 a2 a3 a4 a6 a14 a15 a19 a20 a23 a24 a25 a26 a27 a28 mthrown mtaped msize mat mfrom mtoken mvalue mfaultKind mfaultPlace mgoal mgoalDays mgoalHearer mleastOrder mwordsMany mworld p1 (by omega) (by omega) (by omega) (by omega) (by omega) (by omega) (by omega) (by omega) i_mworld) m_yX12_isHearer b_881 (ci := 12) rfl rfl rfl hP hD hS hA [0, 1] [] rfl (by decide) rfl (by decide) (by decide) rfl hl.1 rfl (Nat.le_of_ble_eq_true rfl) dX12_once_2 ⟨(Nat.le_of_ble_eq_true rfl), (Nat.le_of_ble_eq_true rfl)⟩ ⟨(Nat.le_of_ble_eq_true rfl), (Nat.le_of_ble_eq_true rfl)⟩ (fun u1 H locs q2 hP hD hS => ?_)
  obtain ⟨q2_0, q2_1⟩ := q2
  have hP : va_P g.1 vwCl [(h0, .inr (12, [.int mthrown, .ref a1, .ref a2, .ref a3, .ref a4, .int mtaped, .ref a6, .int msize, .int mat, .int mfrom, .int mtoken, .int mvalue, .int mfaultKind, .int mfaultPlace, .ref a14, .ref a15, .int mgoal, .int mgoalDays, .int mgoalHearer, .ref a19, .ref a20, .int mleastOrder, .int mwordsMany, .ref a23, .ref a24, .ref a25, .ref a26, .ref a27, .ref a28])), (a1, .inl (g.2 0, 225, .inl mworld))] H := hP
  have hD : va_D A [(h0, .inr (12, [.int mthrown, .ref a1, .ref a2, .ref a3, .ref a4, .int mtaped, .ref a6, .int msize, .int mat, .int mfrom, .int mtoken, .int mvalue, .int mfaultKind, .int mfaultPlace, .ref a14, .ref a15, .int mgoal, .int mgoalDays, .int mgoalHearer, .ref a19, .ref a20, .int mleastOrder, .int mwordsMany, .ref a23, .ref a24, .ref a25, .ref a26, .ref a27, .ref a28])), (a1, .inl (g.2 0, 225, .inl mworld))] := hD
  refine W.eq (g2 := F0 m 5 ls [.int (u1.1 0)]) rfl ?_
  rcases (show (u1.1 0).toInt = 0 ∨ (u1.1 0).toInt = 1 by omega) with c3 | c3
  · skip
    refine lv_if_eq (tgt := 24) hx hb dX12_once_5 (by decide) (fun c4 => ?_) (fun c4 => ?_)
    · have c4 := k_eq (a := (u1.1 0).toInt) (b := 0) rfl (by decide) c4
      refine lv_bipush (v := -2) hx hb dX12_once_24 (by decide) ?_
      exact rt_i FX ((fun k => match k with | 0 => (-2 : Int32) | _ => 0), (fun _ => fun _ => 0), (fun _ => fun _ => 0)) rfl trivial (hP.sub [0, 1] rfl) (hD.sub [0, 1] (by decide) rfl) hS (Nat.le_of_ble_eq_true rfl) (Nat.le_of_ble_eq_true rfl) dX12_once_26
    · have c4 := k_ne (a := (u1.1 0).toInt) (b := 0) rfl (by decide) c4
      exfalso; omega
  · have c3_r := q2_1 c3
    refine lv_if_eq (tgt := 24) hx hb dX12_once_5 (by decide) (fun c5 => ?_) (fun c5 => ?_)
    · have c5 := k_eq (a := (u1.1 0).toInt) (b := 0) rfl (by decide) c5
      exfalso; omega
    · have c5 := k_ne (a := (u1.1 0).toInt) (b := 0) rfl (by decide) c5
      refine lv_aload_n hx hb dX12_once_8 rfl (lv_at hl 0 rfl) ?_
      refine lv_iload_n hx hb dX12_once_9 rfl (lv_at hl 1 rfl) ?_
      refine lv_aload_n hx hb dX12_once_10 rfl (lv_at hl 0 rfl) ?_
      refine call_V (As := []) (rest := [.int p1, .ref h0]) (wr := []) FC hKn hZ (k_X12_allStates l g h0 a1 a2 a3 a4 a6 a14 a15 a19 a20 a23 a24 a25 a26 a27 a28 mthrown mtaped msize mat mfrom mtoken mvalue mfaultKind mfaultPlace mgoal mgoalDays mgoalHearer mleastOrder mwordsMany mworld (by omega) (by omega) (by omega) (by omega) (by omega) (by omega) (by omega) (by omega) i_mworld) m_yX12_allStates b_806 (ci := 12) rfl rfl rfl hP hD hS hA [0, 1] [] rfl (by decide) rfl (by decide) (by decide) rfl hl.1 rfl (Nat.le_of_ble_eq_true rfl) dX12_once_11 ⟨(Nat.le_of_ble_eq_true rfl), (Nat.le_of_ble_eq_true rfl)⟩ ⟨(Nat.le_of_ble_eq_true rfl), (Nat.le_of_ble_eq_true rfl)⟩ (fun u6 H locs q7 hP hD hS => ?_)
      obtain ⟨q7_0, q7_1, q7_2⟩ := q7
      have hP : va_P g.1 vwCl [(h0, .inr (12, [.int mthrown, .ref a1, .ref a2, .ref a3, .ref a4, .int mtaped, .ref a6, .int msize, .int mat, .int mfrom, .int mtoken, .int mvalue, .int mfaultKind, .int mfaultPlace, .ref a14, .ref a15, .int mgoal, .int mgoalDays, .int mgoalHearer, .ref a19, .ref a20, .int mleastOrder, .int mwordsMany, .ref a23, .ref a24, .ref a25, .ref a26, .ref a27, .ref a28])), (a1, .inl (g.2 0, 225, .inl mworld))] H := hP
      have hD : va_D A [(h0, .inr (12, [.int mthrown, .ref a1, .ref a2, .ref a3, .ref a4, .int mtaped, .ref a6, .int msize, .int mat, .int mfrom, .int mtoken, .int mvalue, .int mfaultKind, .int mfaultPlace, .ref a14, .ref a15, .int mgoal, .int mgoalDays, .int mgoalHearer, .ref a19, .ref a20, .int mleastOrder, .int mwordsMany, .ref a23, .ref a24, .ref a25, .ref a26, .ref a27, .ref a28])), (a1, .inl (g.2 0, 225, .inl mworld))] := hD
      refine W.eq (g2 := F0 m 14 ls [.int (u6.1 0), .int p1, .ref h0]) rfl ?_
      rw [q7_1] at q7_0
      rw [q7_1] at q7_2
      refine tp_i (v := asF mworld) q7_1 ?_
      refine lv_aload_n hx hb dX12_once_14 rfl (lv_at hl 0 rfl) ?_
      refine call_V (As := []) (rest := [.int (asF mworld), .int p1, .ref h0]) (wr := []) FC hKn hZ (k_X12_reallySet l g h0 a1 a2 a3 a4 a6 a14 a15 a19 a20 a23 a24 a25 a26 a27 a28 mthrown mtaped msize mat mfrom mtoken mvalue mfaultKind mfaultPlace mgoal mgoalDays mgoalHearer mleastOrder mwordsMany mworld (by omega) (by omega) (by omega) (by omega) (by omega) (by omega) (by omega) (by omega) i_mworld) m_yX12_reallySet b_945 (ci := 12) rfl rfl rfl hP hD hS hA [0, 1] [] rfl (by decide) rfl (by decide) (by decide) rfl hl.1 rfl (Nat.le_of_ble_eq_true rfl) dX12_once_15 ⟨(Nat.le_of_ble_eq_true rfl), (Nat.le_of_ble_eq_true rfl)⟩ ⟨(Nat.le_of_ble_eq_true rfl), (Nat.le_of_ble_eq_true rfl)⟩ (fun u8 H locs q9 hP hD hS => ?_)
      have q9_0 : 1 ≤ (u8.1 0).toInt ∧ (u8.1 0).toInt ≤ 128 := q9
      have hP : va_P g.1 vwCl [(h0, .inr (12, [.int mthrown, .ref a1, .ref a2, .ref a3, .ref a4, .int mtaped, .ref a6, .int msize, .int mat, .int mfrom, .int mtoken, .int mvalue, .int mfaultKind, .int mfaultPlace, .ref a14, .ref a15, .int mgoal, .int mgoalDays, .int mgoalHearer, .ref a19, .ref a20, .int mleastOrder, .int mwordsMany, .ref a23, .ref a24, .ref a25, .ref a26, .ref a27, .ref a28])), (a1, .inl (g.2 0, 225, .inl mworld))] H := hP
      have hD : va_D A [(h0, .inr (12, [.int mthrown, .ref a1, .ref a2, .ref a3, .ref a4, .int mtaped, .ref a6, .int msize, .int mat, .int mfrom, .int mtoken, .int mvalue, .int mfaultKind, .int mfaultPlace, .ref a14, .ref a15, .int mgoal, .int mgoalDays, .int mgoalHearer, .ref a19, .ref a20, .int mleastOrder, .int mwordsMany, .ref a23, .ref a24, .ref a25, .ref a26, .ref a27, .ref a28])), (a1, .inl (g.2 0, 225, .inl mworld))] := hD
      refine W.eq (g2 := F0 m 18 ls [.int (u8.1 0), .int (asF mworld), .int p1, .ref h0]) rfl ?_
      refine call_V (As := [.int p1, .int (asF mworld), .int (u8.1 0)]) (rest := []) (wr := []) FC hKn hZ (k_X12_rise l g h0 a1 a2 a3 a4 a6 a14 a15 a19 a20 a23 a24 a25 a26 a27 a28 mthrown mtaped msize mat mfrom mtoken mvalue mfaultKind mfaultPlace mgoal mgoalDays mgoalHearer mleastOrder mwordsMany mworld p1 (asF mworld) (u8.1 0) (by omega) (by omega) (by omega) (by omega) (by omega) (by omega) (by omega) (by omega) i_mworld (by omega) (by omega) (by omega)) m_yX12_rise b_855 (ci := 12) rfl rfl rfl hP hD hS hA [0, 1] [] rfl (by decide) rfl (by decide) (by decide) rfl hl.1 rfl (Nat.le_of_ble_eq_true rfl) dX12_once_18 ⟨(Nat.le_of_ble_eq_true rfl), (Nat.le_of_ble_eq_true rfl)⟩ ⟨(Nat.le_of_ble_eq_true rfl), (Nat.le_of_ble_eq_true rfl)⟩ (fun u10 H locs q11 hP hD hS => ?_)
      have hP : va_P g.1 vwCl [(h0, .inr (12, [.int mthrown, .ref a1, .ref a2, .ref a3, .ref a4, .int mtaped, .ref a6, .int msize, .int mat, .int mfrom, .int mtoken, .int mvalue, .int mfaultKind, .int mfaultPlace, .ref a14, .ref a15, .int mgoal, .int mgoalDays, .int mgoalHearer, .ref a19, .ref a20, .int mleastOrder, .int mwordsMany, .ref a23, .ref a24, .ref a25, .ref a26, .ref a27, .ref a28])), (a1, .inl (g.2 0, 225, .inl mworld))] H := hP
      have hD : va_D A [(h0, .inr (12, [.int mthrown, .ref a1, .ref a2, .ref a3, .ref a4, .int mtaped, .ref a6, .int msize, .int mat, .int mfrom, .int mtoken, .int mvalue, .int mfaultKind, .int mfaultPlace, .ref a14, .ref a15, .int mgoal, .int mgoalDays, .int mgoalHearer, .ref a19, .ref a20, .int mleastOrder, .int mwordsMany, .ref a23, .ref a24, .ref a25, .ref a26, .ref a27, .ref a28])), (a1, .inl (g.2 0, 225, .inl mworld))] := hD
      refine W.eq (g2 := F0 m 21 ls [.int (u10.1 0)]) rfl ?_
      refine lv_goto (tgt := 26) hx hb dX12_once_21 (by decide) ?_
      exact rt_i FX ((fun k => match k with | 0 => u10.1 0 | _ => 0), (fun _ => fun _ => 0), (fun _ => fun _ => 0)) rfl trivial (hP.sub [0, 1] rfl) (hD.sub [0, 1] (by decide) rfl) hS (Nat.le_of_ble_eq_true rfl) (Nat.le_of_ble_eq_true rfl) dX12_once_26
set_option maxRecDepth 100000 in
set_option maxHeartbeats 4000000 in
theorem k_X12_late (l : Launch) (g : GG) (h0 : Nat) (a1 : Nat) (a2 : Nat) (a3 : Nat) (a4 : Nat) (a6 : Nat) (a14 : Nat) (a15 : Nat) (a19 : Nat) (a20 : Nat) (a23 : Nat) (a24 : Nat) (a25 : Nat) (a26 : Nat) (a27 : Nat) (a28 : Nat) (mthrown : Int32) (mtaped : Int32) (msize : Int32) (mat : Int32) (mfrom : Int32) (mtoken : Int32) (mvalue : Int32) (mfaultKind : Int32) (mfaultPlace : Int32) (mgoal : Int32) (mgoalDays : Int32) (mgoalHearer : Int32) (mleastOrder : Int32) (mwordsMany : Int32) (mworld : Nat → Int32) (p1 : Int32) (p2 : Int32) (i_mtaped : 0 ≤ mtaped.toInt ∧ mtaped.toInt ≤ 900) (i_msize : 0 ≤ msize.toInt ∧ msize.toInt ≤ 900) (i_mat : 0 ≤ mat.toInt ∧ mat.toInt ≤ 900) (i_mfrom : 0 ≤ mfrom.toInt ∧ mfrom.toInt ≤ 900) (i_mtoken : 0 ≤ mtoken.toInt ∧ mtoken.toInt ≤ 4) (i_mvalue : 0 ≤ mvalue.toInt ∧ mvalue.toInt ≤ 99999) (i_mgoalHearer : 0 ≤ mgoalHearer.toInt ∧ mgoalHearer.toInt ≤ 3) (i_mwordsMany : 0 ≤ mwordsMany.toInt ∧ mwordsMany.toInt ≤ 10) (i_mworld : wod mworld) : Ct l g yX12_late cX12_late 5 (some .int) { frames := 3, cells := 0, slots := 0, locals := 72 } [.ref h0, .int p1, .int p2] [(h0, .inr (12, [.int mthrown, .ref a1, .ref a2, .ref a3, .ref a4, .int mtaped, .ref a6, .int msize, .int mat, .int mfrom, .int mtoken, .int mvalue, .int mfaultKind, .int mfaultPlace, .ref a14, .ref a15, .int mgoal, .int mgoalDays, .int mgoalHearer, .ref a19, .ref a20, .int mleastOrder, .int mwordsMany, .ref a23, .ref a24, .ref a25, .ref a26, .ref a27, .ref a28])), (a1, .inl (g.2 0, 225, .inl mworld))] (S := (Nat → Int32) × (Nat → Nat → Int32) × (Nat → Nat → Int64)) (fun u => some (.int (u.1 0))) (fun u => True) (fun u => [(h0, .inr (12, [.int mthrown, .ref a1, .ref a2, .ref a3, .ref a4, .int mtaped, .ref a6, .int msize, .int mat, .int mfrom, .int mtoken, .int mvalue, .int mfaultKind, .int mfaultPlace, .ref a14, .ref a15, .int mgoal, .int mgoalDays, .int mgoalHearer, .ref a19, .ref a20, .int mleastOrder, .int mwordsMany, .ref a23, .ref a24, .ref a25, .ref a26, .ref a27, .ref a28])), (a1, .inl (g.2 0, 225, .inl mworld))]) := by
  refine Ct.of (by decide) (Nat.le_of_ble_eq_true rfl) ?_
  intro p e s m below meth c A ls FX hP hD hS hl
  obtain ⟨FC, hr, hlk, hKn, hA, hnm, hZ⟩ := id FX
  have FC : CallFix p m c cX12_late 5 s _ BIG RX12 := FC
  obtain ⟨hx, hb, hml, hown, hB⟩ := id FC
  have hl : lv_has ls 5 [(0, .ref h0), (1, .int p1), (2, .int p2)] := hl
  refine lv_aload_n hx hb dX12_late_0 rfl (lv_at hl 0 rfl) ?_
  refine lv_iload_n hx hb dX12_late_1 rfl (lv_at hl 1 rfl) ?_
  refine call_V (As := [.int p1]) (rest := []) (wr := []) FC hKn hZ (k_X12_isHearer l g h0 a1 a2 a3 a4 a6 a14 a15 a19 a20 a23 a24 a25 a26 a27 a28 mthrown mtaped msize mat mfrom mtoken mvalue mfaultKind mfaultPlace mgoal mgoalDays mgoalHearer mleastOrder mwordsMany mworld p1 (by omega) (by omega) (by omega) (by omega) (by omega) (by omega) (by omega) (by omega) i_mworld) m_yX12_isHearer b_881 (ci := 12) rfl rfl rfl hP hD hS hA [0, 1] [] rfl (by decide) rfl (by decide) (by decide) rfl hl.1 rfl (Nat.le_of_ble_eq_true rfl) dX12_late_2 ⟨(Nat.le_of_ble_eq_true rfl), (Nat.le_of_ble_eq_true rfl)⟩ ⟨(Nat.le_of_ble_eq_true rfl), (Nat.le_of_ble_eq_true rfl)⟩ (fun u1 H locs q2 hP hD hS => ?_)
  obtain ⟨q2_0, q2_1⟩ := q2
  have hP : va_P g.1 vwCl [(h0, .inr (12, [.int mthrown, .ref a1, .ref a2, .ref a3, .ref a4, .int mtaped, .ref a6, .int msize, .int mat, .int mfrom, .int mtoken, .int mvalue, .int mfaultKind, .int mfaultPlace, .ref a14, .ref a15, .int mgoal, .int mgoalDays, .int mgoalHearer, .ref a19, .ref a20, .int mleastOrder, .int mwordsMany, .ref a23, .ref a24, .ref a25, .ref a26, .ref a27, .ref a28])), (a1, .inl (g.2 0, 225, .inl mworld))] H := hP
  have hD : va_D A [(h0, .inr (12, [.int mthrown, .ref a1, .ref a2, .ref a3, .ref a4, .int mtaped, .ref a6, .int msize, .int mat, .int mfrom, .int mtoken, .int mvalue, .int mfaultKind, .int mfaultPlace, .ref a14, .ref a15, .int mgoal, .int mgoalDays, .int mgoalHearer, .ref a19, .ref a20, .int mleastOrder, .int mwordsMany, .ref a23, .ref a24, .ref a25, .ref a26, .ref a27, .ref a28])), (a1, .inl (g.2 0, 225, .inl mworld))] := hD
  refine W.eq (g2 := F0 m 5 ls [.int (u1.1 0)]) rfl ?_
  rcases (show (u1.1 0).toInt = 0 ∨ (u1.1 0).toInt = 1 by omega) with c3 | c3
  · skip
    refine lv_if_eq (tgt := 12) hx hb dX12_late_5 (by decide) (fun c4 => ?_) (fun c4 => ?_)
    · have c4 := k_eq (a := (u1.1 0).toInt) (b := 0) rfl (by decide) c4
      refine lv_bipush (v := -2) hx hb dX12_late_12 (by decide) ?_
      exact rt_i FX ((fun k => match k with | 0 => (-2 : Int32) | _ => 0), (fun _ => fun _ => 0), (fun _ => fun _ => 0)) rfl trivial (hP.sub [0, 1] rfl) (hD.sub [0, 1] (by decide) rfl) hS (Nat.le_of_ble_eq_true rfl) (Nat.le_of_ble_eq_true rfl) dX12_late_14
    · have c4 := k_ne (a := (u1.1 0).toInt) (b := 0) rfl (by decide) c4
      exfalso; omega
  · have c3_r := q2_1 c3
    refine lv_if_eq (tgt := 12) hx hb dX12_late_5 (by decide) (fun c5 => ?_) (fun c5 => ?_)
    · have c5 := k_eq (a := (u1.1 0).toInt) (b := 0) rfl (by decide) c5
      exfalso; omega
    · have c5 := k_ne (a := (u1.1 0).toInt) (b := 0) rfl (by decide) c5
      refine lv_iload_n hx hb dX12_late_8 rfl (lv_at hl 2 rfl) ?_
      refine lv_if_ge (tgt := 15) hx hb dX12_late_9 (by decide) (fun c6 => ?_) (fun c6 => ?_)
      · have c6 := k_le (a := 0) (b := p2.toInt) (by decide) rfl c6
        refine lv_aload_n hx hb dX12_late_15 rfl (lv_at hl 0 rfl) ?_
        refine lv_iload_n hx hb dX12_late_16 rfl (lv_at hl 1 rfl) ?_
        refine lv_aload_n hx hb dX12_late_17 rfl (lv_at hl 0 rfl) ?_
        refine call_V (As := []) (rest := [.int p1, .ref h0]) (wr := []) FC hKn hZ (k_X12_allStates l g h0 a1 a2 a3 a4 a6 a14 a15 a19 a20 a23 a24 a25 a26 a27 a28 mthrown mtaped msize mat mfrom mtoken mvalue mfaultKind mfaultPlace mgoal mgoalDays mgoalHearer mleastOrder mwordsMany mworld (by omega) (by omega) (by omega) (by omega) (by omega) (by omega) (by omega) (by omega) i_mworld) m_yX12_allStates b_806 (ci := 12) rfl rfl rfl hP hD hS hA [0, 1] [] rfl (by decide) rfl (by decide) (by decide) rfl hl.1 rfl (Nat.le_of_ble_eq_true rfl) dX12_late_18 ⟨(Nat.le_of_ble_eq_true rfl), (Nat.le_of_ble_eq_true rfl)⟩ ⟨(Nat.le_of_ble_eq_true rfl), (Nat.le_of_ble_eq_true rfl)⟩ (fun u7 H locs q8 hP hD hS => ?_)
        obtain ⟨q8_0, q8_1, q8_2⟩ := q8
        have hP : va_P g.1 vwCl [(h0, .inr (12, [.int mthrown, .ref a1, .ref a2, .ref a3, .ref a4, .int mtaped, .ref a6, .int msize, .int mat, .int mfrom, .int mtoken, .int mvalue, .int mfaultKind, .int mfaultPlace, .ref a14, .ref a15, .int mgoal, .int mgoalDays, .int mgoalHearer, .ref a19, .ref a20, .int mleastOrder, .int mwordsMany, .ref a23, .ref a24, .ref a25, .ref a26, .ref a27, .ref a28])), (a1, .inl (g.2 0, 225, .inl mworld))] H := hP
        have hD : va_D A [(h0, .inr (12, [.int mthrown, .ref a1, .ref a2, .ref a3, .ref a4, .int mtaped, .ref a6, .int msize, .int mat, .int mfrom, .int mtoken, .int mvalue, .int mfaultKind, .int mfaultPlace, .ref a14, .ref a15, .int mgoal, .int mgoalDays, .int mgoalHearer, .ref a19, .ref a20, .int mleastOrder, .int mwordsMany, .ref a23, .ref a24, .ref a25, .ref a26, .ref a27, .ref a28])), (a1, .inl (g.2 0, 225, .inl mworld))] := hD
        refine W.eq (g2 := F0 m 21 ls [.int (u7.1 0), .int p1, .ref h0]) rfl ?_
        rw [q8_1] at q8_0
        rw [q8_1] at q8_2
        refine tp_i (v := asF mworld) q8_1 ?_
        refine lv_aload_n hx hb dX12_late_21 rfl (lv_at hl 0 rfl) ?_
        refine call_V (As := []) (rest := [.int (asF mworld), .int p1, .ref h0]) (wr := []) FC hKn hZ (k_X12_reallySet l g h0 a1 a2 a3 a4 a6 a14 a15 a19 a20 a23 a24 a25 a26 a27 a28 mthrown mtaped msize mat mfrom mtoken mvalue mfaultKind mfaultPlace mgoal mgoalDays mgoalHearer mleastOrder mwordsMany mworld (by omega) (by omega) (by omega) (by omega) (by omega) (by omega) (by omega) (by omega) i_mworld) m_yX12_reallySet b_945 (ci := 12) rfl rfl rfl hP hD hS hA [0, 1] [] rfl (by decide) rfl (by decide) (by decide) rfl hl.1 rfl (Nat.le_of_ble_eq_true rfl) dX12_late_22 ⟨(Nat.le_of_ble_eq_true rfl), (Nat.le_of_ble_eq_true rfl)⟩ ⟨(Nat.le_of_ble_eq_true rfl), (Nat.le_of_ble_eq_true rfl)⟩ (fun u9 H locs q10 hP hD hS => ?_)
        have q10_0 : 1 ≤ (u9.1 0).toInt ∧ (u9.1 0).toInt ≤ 128 := q10
        have hP : va_P g.1 vwCl [(h0, .inr (12, [.int mthrown, .ref a1, .ref a2, .ref a3, .ref a4, .int mtaped, .ref a6, .int msize, .int mat, .int mfrom, .int mtoken, .int mvalue, .int mfaultKind, .int mfaultPlace, .ref a14, .ref a15, .int mgoal, .int mgoalDays, .int mgoalHearer, .ref a19, .ref a20, .int mleastOrder, .int mwordsMany, .ref a23, .ref a24, .ref a25, .ref a26, .ref a27, .ref a28])), (a1, .inl (g.2 0, 225, .inl mworld))] H := hP
        have hD : va_D A [(h0, .inr (12, [.int mthrown, .ref a1, .ref a2, .ref a3, .ref a4, .int mtaped, .ref a6, .int msize, .int mat, .int mfrom, .int mtoken, .int mvalue, .int mfaultKind, .int mfaultPlace, .ref a14, .ref a15, .int mgoal, .int mgoalDays, .int mgoalHearer, .ref a19, .ref a20, .int mleastOrder, .int mwordsMany, .ref a23, .ref a24, .ref a25, .ref a26, .ref a27, .ref a28])), (a1, .inl (g.2 0, 225, .inl mworld))] := hD
        refine W.eq (g2 := F0 m 25 ls [.int (u9.1 0), .int (asF mworld), .int p1, .ref h0]) rfl ?_
        refine call_V (As := [.int p1, .int (asF mworld), .int (u9.1 0)]) (rest := []) (wr := []) FC hKn hZ (k_X12_rise l g h0 a1 a2 a3 a4 a6 a14 a15 a19 a20 a23 a24 a25 a26 a27 a28 mthrown mtaped msize mat mfrom mtoken mvalue mfaultKind mfaultPlace mgoal mgoalDays mgoalHearer mleastOrder mwordsMany mworld p1 (asF mworld) (u9.1 0) (by omega) (by omega) (by omega) (by omega) (by omega) (by omega) (by omega) (by omega) i_mworld (by omega) (by omega) (by omega)) m_yX12_rise b_855 (ci := 12) rfl rfl rfl hP hD hS hA [0, 1] [] rfl (by decide) rfl (by decide) (by decide) rfl hl.1 rfl (Nat.le_of_ble_eq_true rfl) dX12_late_25 ⟨(Nat.le_of_ble_eq_true rfl), (Nat.le_of_ble_eq_true rfl)⟩ ⟨(Nat.le_of_ble_eq_true rfl), (Nat.le_of_ble_eq_true rfl)⟩ (fun u11 H locs q12 hP hD hS => ?_)
        have hP : va_P g.1 vwCl [(h0, .inr (12, [.int mthrown, .ref a1, .ref a2, .ref a3, .ref a4, .int mtaped, .ref a6, .int msize, .int mat, .int mfrom, .int mtoken, .int mvalue, .int mfaultKind, .int mfaultPlace, .ref a14, .ref a15, .int mgoal, .int mgoalDays, .int mgoalHearer, .ref a19, .ref a20, .int mleastOrder, .int mwordsMany, .ref a23, .ref a24, .ref a25, .ref a26, .ref a27, .ref a28])), (a1, .inl (g.2 0, 225, .inl mworld))] H := hP
        have hD : va_D A [(h0, .inr (12, [.int mthrown, .ref a1, .ref a2, .ref a3, .ref a4, .int mtaped, .ref a6, .int msize, .int mat, .int mfrom, .int mtoken, .int mvalue, .int mfaultKind, .int mfaultPlace, .ref a14, .ref a15, .int mgoal, .int mgoalDays, .int mgoalHearer, .ref a19, .ref a20, .int mleastOrder, .int mwordsMany, .ref a23, .ref a24, .ref a25, .ref a26, .ref a27, .ref a28])), (a1, .inl (g.2 0, 225, .inl mworld))] := hD
        refine W.eq (g2 := F0 m 28 ls [.int (u11.1 0)]) rfl ?_
        refine lv_istore_n (lv' := [(3, .int (u11.1 0)), (0, .ref h0), (1, .int p1), (2, .int p2)]) hx hb dX12_late_28 rfl hl (by decide) rfl (fun ls hl => ?_)
        refine lv_aload_n hx hb dX12_late_29 rfl (lv_at hl 1 rfl) ?_
        refine g_get (C := RX12) (T := TX12) (N := 29) (ci := 12) (v := .ref a1) FC hKn hP i_X12 0 rfl rfl 1 (by decide) b_801 rfl dX12_late_30 ?_
        refine lv_iconst (v := 2) hx hb dX12_late_33 (by decide) ?_
        refine va_iald hx hb hKn.1 hP 1 0 rfl rfl (by unfold vp_in; decide) dX12_late_34 ?_
        have kc2 : (2 : Int32).toInt = 2 := by decide
        refine lv_topi (fun z13 e_z13 => ?_)
        have t_z13 : 0 ≤ z13.toInt ∧ z13.toInt ≤ 10 := by rw [e_z13]; exact wk_2 i_mworld.1
        have q_z13 : z13.toInt = (mworld 2).toInt := by rw [e_z13]; rfl
        refine lv_iconst (v := 1) hx hb dX12_late_35 (by decide) ?_
        refine lv_isub hx hb dX12_late_36 ?_
        have kc1 : (1 : Int32).toInt = 1 := by decide
        refine lv_topi (fun z14 e_z14 => ?_)
        have t_z14 : z14.toInt = z13.toInt - ((1 : Int32)).toInt := by rw [e_z14]; exact fb_subI (by omega) (by omega)
        refine lv_istore (lv' := [(4, .int z14), (3, .int (u11.1 0)), (0, .ref h0), (1, .int p1), (2, .int p2)]) hx hb dX12_late_37 hl (by decide) rfl (fun ls hl => ?_)
        have lp27 : ∀ (n29 : Nat) (x26 : Int32) (H : Heap) (locs : List Loc) (ls : Array Slot), -1 ≤ x26.toInt ∧ x26.toInt ≤ 9 → (x26.toInt - (-1)).toNat < n29 → va_P g.1 vwCl [(h0, .inr (12, [.int mthrown, .ref a1, .ref a2, .ref a3, .ref a4, .int mtaped, .ref a6, .int msize, .int mat, .int mfrom, .int mtoken, .int mvalue, .int mfaultKind, .int mfaultPlace, .ref a14, .ref a15, .int mgoal, .int mgoalDays, .int mgoalHearer, .ref a19, .ref a20, .int mleastOrder, .int mwordsMany, .ref a23, .ref a24, .ref a25, .ref a26, .ref a27, .ref a28])), (a1, .inl (g.2 0, 225, .inl mworld))] H → va_D A [(h0, .inr (12, [.int mthrown, .ref a1, .ref a2, .ref a3, .ref a4, .int mtaped, .ref a6, .int msize, .int mat, .int mfrom, .int mtoken, .int mvalue, .int mfaultKind, .int mfaultPlace, .ref a14, .ref a15, .int mgoal, .int mgoalDays, .int mgoalHearer, .ref a19, .ref a20, .int mleastOrder, .int mwordsMany, .ref a23, .ref a24, .ref a25, .ref a26, .ref a27, .ref a28])), (a1, .inl (g.2 0, 225, .inl mworld))] → va_S A s.heap H locs → lv_has ls 5 [(4, .int x26), (3, .int (u11.1 0)), (0, .ref h0), (1, .int p1), (2, .int p2)] → W p l e { frames := 3, cells := 0, slots := 0, locals := 72 } s m ([.ref h0, .int p1, .int p2].toArray) below meth c H locs 0 0 (MQ below (QX (S := (Nat → Int32) × (Nat → Nat → Int32) × (Nat → Nat → Int64)) (fun u => some (.int (u.1 0))) (fun u => True) g (fun u => [(h0, .inr (12, [.int mthrown, .ref a1, .ref a2, .ref a3, .ref a4, .int mtaped, .ref a6, .int msize, .int mat, .int mfrom, .int mtoken, .int mvalue, .int mfaultKind, .int mfaultPlace, .ref a14, .ref a15, .int mgoal, .int mgoalDays, .int mgoalHearer, .ref a19, .ref a20, .int mleastOrder, .int mwordsMany, .ref a23, .ref a24, .ref a25, .ref a26, .ref a27, .ref a28])), (a1, .inl (g.2 0, 225, .inl mworld))]) A) ([.ref h0, .int p1, .int p2].toArray) s 0 0 A) (F0 m 39 ls []) := by
          intro n29
          induction n29 with
          | zero =>
            intro x26 H locs ls h_x26 hn30
            exact absurd hn30 (Nat.not_lt_zero _)
          | succ n29 ih28 =>
            intro x26 H locs ls h_x26 hn30 hP hD hS hl
            refine lv_iload hx hb dX12_late_39 (lv_at hl 0 rfl) ?_
            refine lv_if_lt (tgt := 70) hx hb dX12_late_41 (by decide) (fun c31 => ?_) (fun c31 => ?_)
            · have c31 := k_lt (a := x26.toInt) (b := 0) rfl (by decide) c31
              refine lv_iconst (v := -1) hx hb dX12_late_70 (by decide) ?_
              exact rt_i FX ((fun k => match k with | 0 => (-1 : Int32) | _ => 0), (fun _ => fun _ => 0), (fun _ => fun _ => 0)) rfl trivial (hP.sub [0, 1] rfl) (hD.sub [0, 1] (by decide) rfl) hS (Nat.le_of_ble_eq_true rfl) (Nat.le_of_ble_eq_true rfl) dX12_late_71
            · have c31 := k_nlt (a := x26.toInt) (b := 0) rfl (by decide) c31
              refine lv_aload_n hx hb dX12_late_44 rfl (lv_at hl 2 rfl) ?_
              refine lv_iload_n hx hb dX12_late_45 rfl (lv_at hl 1 rfl) ?_
              refine lv_iload hx hb dX12_late_46 (lv_at hl 0 rfl) ?_
              refine lv_aload_n hx hb dX12_late_48 rfl (lv_at hl 2 rfl) ?_
              refine g_get (C := RX12) (T := TX12) (N := 29) (ci := 12) (v := .ref a1) FC hKn hP i_X12 0 rfl rfl 1 (by decide) b_801 rfl dX12_late_49 ?_
              refine lv_iconst (v := 2) hx hb dX12_late_52 (by decide) ?_
              refine va_iald hx hb hKn.1 hP 1 0 rfl rfl (by unfold vp_in; decide) dX12_late_53 ?_
              refine tp_i (v := z13) e_z13.symm ?_
              refine call_V (As := [.int (u11.1 0), .int x26, .int z13]) (rest := []) (wr := []) FC hKn hZ (k_X12_leftOf l g h0 a1 a2 a3 a4 a6 a14 a15 a19 a20 a23 a24 a25 a26 a27 a28 mthrown mtaped msize mat mfrom mtoken mvalue mfaultKind mfaultPlace mgoal mgoalDays mgoalHearer mleastOrder mwordsMany mworld (u11.1 0) x26 z13 (by omega) (by omega) (by omega) (by omega) (by omega) (by omega) (by omega) (by omega) i_mworld) m_yX12_leftOf b_942 (ci := 12) rfl rfl rfl hP hD hS hA [0, 1] [] rfl (by decide) rfl (by decide) (by decide) rfl hl.1 rfl (Nat.le_of_ble_eq_true rfl) dX12_late_54 ⟨(Nat.le_of_ble_eq_true rfl), (Nat.le_of_ble_eq_true rfl)⟩ ⟨(Nat.le_of_ble_eq_true rfl), (Nat.le_of_ble_eq_true rfl)⟩ (fun u32 H locs q33 hP hD hS => ?_)
              have hP : va_P g.1 vwCl [(h0, .inr (12, [.int mthrown, .ref a1, .ref a2, .ref a3, .ref a4, .int mtaped, .ref a6, .int msize, .int mat, .int mfrom, .int mtoken, .int mvalue, .int mfaultKind, .int mfaultPlace, .ref a14, .ref a15, .int mgoal, .int mgoalDays, .int mgoalHearer, .ref a19, .ref a20, .int mleastOrder, .int mwordsMany, .ref a23, .ref a24, .ref a25, .ref a26, .ref a27, .ref a28])), (a1, .inl (g.2 0, 225, .inl mworld))] H := hP
              have hD : va_D A [(h0, .inr (12, [.int mthrown, .ref a1, .ref a2, .ref a3, .ref a4, .int mtaped, .ref a6, .int msize, .int mat, .int mfrom, .int mtoken, .int mvalue, .int mfaultKind, .int mfaultPlace, .ref a14, .ref a15, .int mgoal, .int mgoalDays, .int mgoalHearer, .ref a19, .ref a20, .int mleastOrder, .int mwordsMany, .ref a23, .ref a24, .ref a25, .ref a26, .ref a27, .ref a28])), (a1, .inl (g.2 0, 225, .inl mworld))] := hD
              refine W.eq (g2 := F0 m 57 ls [.int (u32.1 0)]) rfl ?_
              refine lv_iload_n hx hb dX12_late_57 rfl (lv_at hl 4 rfl) ?_
              refine lv_icmp_gt (tgt := 64) hx hb dX12_late_58 (by decide) (fun c34 => ?_) (fun c34 => ?_)
              · have c34 := k_lt (a := p2.toInt) (b := (u32.1 0).toInt) rfl rfl c34
                obtain ⟨z35, e_z35⟩ : ∃ y : Int32, y = x26 + (-1) := ⟨_, rfl⟩
                have t_z35 : z35.toInt = x26.toInt + (-1) := by rw [e_z35]; exact addk (by decide) (by omega) (by omega)
                refine lv_iinc (v := z35) (lv' := [(4, .int z35), (3, .int (u11.1 0)), (0, .ref h0), (1, .int p1), (2, .int p2)]) hx hb dX12_late_64 hl (k := 0) rfl (by rw [e_z35]; rfl) (by decide) rfl (fun ls hl => ?_)
                refine lv_goto (tgt := 39) hx hb dX12_late_67 (by decide) ?_
                exact ih28 z35 _ _ ls (by omega) (by omega) hP hD hS (lv_sub hl [0, 1, 2, 3, 4] rfl)
              · have c34 := k_nlt (a := p2.toInt) (b := (u32.1 0).toInt) rfl rfl c34
                refine lv_iload hx hb dX12_late_61 (lv_at hl 0 rfl) ?_
                exact rt_i FX ((fun k => match k with | 0 => x26 | _ => 0), (fun _ => fun _ => 0), (fun _ => fun _ => 0)) rfl trivial (hP.sub [0, 1] rfl) (hD.sub [0, 1] (by decide) rfl) hS (Nat.le_of_ble_eq_true rfl) (Nat.le_of_ble_eq_true rfl) dX12_late_63
        exact lp27 _ z14 _ _ ls (by omega) (Nat.lt_succ_self _) hP hD hS (lv_sub hl [0, 1, 2, 3, 4] rfl)
      · have c6 := k_nle (a := 0) (b := p2.toInt) (by decide) rfl c6
        refine lv_bipush (v := -2) hx hb dX12_late_12 (by decide) ?_
        exact rt_i FX ((fun k => match k with | 0 => (-2 : Int32) | _ => 0), (fun _ => fun _ => 0), (fun _ => fun _ => 0)) rfl trivial (hP.sub [0, 1] rfl) (hD.sub [0, 1] (by decide) rfl) hS (Nat.le_of_ble_eq_true rfl) (Nat.le_of_ble_eq_true rfl) dX12_late_14
set_option maxRecDepth 100000 in
set_option maxHeartbeats 4000000 in
theorem k_X12_calm (l : Launch) (g : GG) (h0 : Nat) (a1 : Nat) (a2 : Nat) (a3 : Nat) (a4 : Nat) (a6 : Nat) (a14 : Nat) (a15 : Nat) (a19 : Nat) (a20 : Nat) (a23 : Nat) (a24 : Nat) (a25 : Nat) (a26 : Nat) (a27 : Nat) (a28 : Nat) (mthrown : Int32) (mtaped : Int32) (msize : Int32) (mat : Int32) (mfrom : Int32) (mtoken : Int32) (mvalue : Int32) (mfaultKind : Int32) (mfaultPlace : Int32) (mgoal : Int32) (mgoalDays : Int32) (mgoalHearer : Int32) (mleastOrder : Int32) (mwordsMany : Int32) (mworld : Nat → Int32) (p1 : Int32) (p2 : Int32) (i_mtaped : 0 ≤ mtaped.toInt ∧ mtaped.toInt ≤ 900) (i_msize : 0 ≤ msize.toInt ∧ msize.toInt ≤ 900) (i_mat : 0 ≤ mat.toInt ∧ mat.toInt ≤ 900) (i_mfrom : 0 ≤ mfrom.toInt ∧ mfrom.toInt ≤ 900) (i_mtoken : 0 ≤ mtoken.toInt ∧ mtoken.toInt ≤ 4) (i_mvalue : 0 ≤ mvalue.toInt ∧ mvalue.toInt ≤ 99999) (i_mgoalHearer : 0 ≤ mgoalHearer.toInt ∧ mgoalHearer.toInt ≤ 3) (i_mwordsMany : 0 ≤ mwordsMany.toInt ∧ mwordsMany.toInt ≤ 10) (i_mworld : wod mworld) : Ct l g yX12_calm cX12_calm 5 (some .int) { frames := 3, cells := 0, slots := 0, locals := 72 } [.ref h0, .int p1, .int p2] [(h0, .inr (12, [.int mthrown, .ref a1, .ref a2, .ref a3, .ref a4, .int mtaped, .ref a6, .int msize, .int mat, .int mfrom, .int mtoken, .int mvalue, .int mfaultKind, .int mfaultPlace, .ref a14, .ref a15, .int mgoal, .int mgoalDays, .int mgoalHearer, .ref a19, .ref a20, .int mleastOrder, .int mwordsMany, .ref a23, .ref a24, .ref a25, .ref a26, .ref a27, .ref a28])), (a1, .inl (g.2 0, 225, .inl mworld))] (S := (Nat → Int32) × (Nat → Nat → Int32) × (Nat → Nat → Int64)) (fun u => some (.int (u.1 0))) (fun u => True) (fun u => [(h0, .inr (12, [.int mthrown, .ref a1, .ref a2, .ref a3, .ref a4, .int mtaped, .ref a6, .int msize, .int mat, .int mfrom, .int mtoken, .int mvalue, .int mfaultKind, .int mfaultPlace, .ref a14, .ref a15, .int mgoal, .int mgoalDays, .int mgoalHearer, .ref a19, .ref a20, .int mleastOrder, .int mwordsMany, .ref a23, .ref a24, .ref a25, .ref a26, .ref a27, .ref a28])), (a1, .inl (g.2 0, 225, .inl mworld))]) := by
  refine Ct.of (by decide) (Nat.le_of_ble_eq_true rfl) ?_
  intro p e s m below meth c A ls FX hP hD hS hl
  obtain ⟨FC, hr, hlk, hKn, hA, hnm, hZ⟩ := id FX
  have FC : CallFix p m c cX12_calm 5 s _ BIG RX12 := FC
  obtain ⟨hx, hb, hml, hown, hB⟩ := id FC
  have hl : lv_has ls 5 [(0, .ref h0), (1, .int p1), (2, .int p2)] := hl
  refine lv_aload_n hx hb dX12_calm_0 rfl (lv_at hl 0 rfl) ?_
  refine lv_iload_n hx hb dX12_calm_1 rfl (lv_at hl 1 rfl) ?_
  refine call_V (As := [.int p1]) (rest := []) (wr := []) FC hKn hZ (k_X12_isHearer l g h0 a1 a2 a3 a4 a6 a14 a15 a19 a20 a23 a24 a25 a26 a27 a28 mthrown mtaped msize mat mfrom mtoken mvalue mfaultKind mfaultPlace mgoal mgoalDays mgoalHearer mleastOrder mwordsMany mworld p1 (by omega) (by omega) (by omega) (by omega) (by omega) (by omega) (by omega) (by omega) i_mworld) m_yX12_isHearer b_881 (ci := 12) rfl rfl rfl hP hD hS hA [0, 1] [] rfl (by decide) rfl (by decide) (by decide) rfl hl.1 rfl (Nat.le_of_ble_eq_true rfl) dX12_calm_2 ⟨(Nat.le_of_ble_eq_true rfl), (Nat.le_of_ble_eq_true rfl)⟩ ⟨(Nat.le_of_ble_eq_true rfl), (Nat.le_of_ble_eq_true rfl)⟩ (fun u1 H locs q2 hP hD hS => ?_)
  obtain ⟨q2_0, q2_1⟩ := q2
  have hP : va_P g.1 vwCl [(h0, .inr (12, [.int mthrown, .ref a1, .ref a2, .ref a3, .ref a4, .int mtaped, .ref a6, .int msize, .int mat, .int mfrom, .int mtoken, .int mvalue, .int mfaultKind, .int mfaultPlace, .ref a14, .ref a15, .int mgoal, .int mgoalDays, .int mgoalHearer, .ref a19, .ref a20, .int mleastOrder, .int mwordsMany, .ref a23, .ref a24, .ref a25, .ref a26, .ref a27, .ref a28])), (a1, .inl (g.2 0, 225, .inl mworld))] H := hP
  have hD : va_D A [(h0, .inr (12, [.int mthrown, .ref a1, .ref a2, .ref a3, .ref a4, .int mtaped, .ref a6, .int msize, .int mat, .int mfrom, .int mtoken, .int mvalue, .int mfaultKind, .int mfaultPlace, .ref a14, .ref a15, .int mgoal, .int mgoalDays, .int mgoalHearer, .ref a19, .ref a20, .int mleastOrder, .int mwordsMany, .ref a23, .ref a24, .ref a25, .ref a26, .ref a27, .ref a28])), (a1, .inl (g.2 0, 225, .inl mworld))] := hD
  refine W.eq (g2 := F0 m 5 ls [.int (u1.1 0)]) rfl ?_
  rcases (show (u1.1 0).toInt = 0 ∨ (u1.1 0).toInt = 1 by omega) with c3 | c3
  · skip
    refine lv_if_eq (tgt := 16) hx hb dX12_calm_5 (by decide) (fun c4 => ?_) (fun c4 => ?_)
    · have c4 := k_eq (a := (u1.1 0).toInt) (b := 0) rfl (by decide) c4
      refine lv_bipush (v := -2) hx hb dX12_calm_16 (by decide) ?_
      exact rt_i FX ((fun k => match k with | 0 => (-2 : Int32) | _ => 0), (fun _ => fun _ => 0), (fun _ => fun _ => 0)) rfl trivial (hP.sub [0, 1] rfl) (hD.sub [0, 1] (by decide) rfl) hS (Nat.le_of_ble_eq_true rfl) (Nat.le_of_ble_eq_true rfl) dX12_calm_18
    · have c4 := k_ne (a := (u1.1 0).toInt) (b := 0) rfl (by decide) c4
      exfalso; omega
  · have c3_r := q2_1 c3
    refine lv_if_eq (tgt := 16) hx hb dX12_calm_5 (by decide) (fun c5 => ?_) (fun c5 => ?_)
    · have c5 := k_eq (a := (u1.1 0).toInt) (b := 0) rfl (by decide) c5
      exfalso; omega
    · have c5 := k_ne (a := (u1.1 0).toInt) (b := 0) rfl (by decide) c5
      refine lv_aload_n hx hb dX12_calm_8 rfl (lv_at hl 0 rfl) ?_
      refine lv_iload_n hx hb dX12_calm_9 rfl (lv_at hl 2 rfl) ?_
      refine call_V (As := [.int p2]) (rest := []) (wr := []) FC hKn hZ (k_X12_isBelief l g h0 a1 a2 a3 a4 a6 a14 a15 a19 a20 a23 a24 a25 a26 a27 a28 mthrown mtaped msize mat mfrom mtoken mvalue mfaultKind mfaultPlace mgoal mgoalDays mgoalHearer mleastOrder mwordsMany mworld p2 (by omega) (by omega) (by omega) (by omega) (by omega) (by omega) (by omega) (by omega) i_mworld) m_yX12_isBelief b_884 (ci := 12) rfl rfl rfl hP hD hS hA [0, 1] [] rfl (by decide) rfl (by decide) (by decide) rfl hl.1 rfl (Nat.le_of_ble_eq_true rfl) dX12_calm_10 ⟨(Nat.le_of_ble_eq_true rfl), (Nat.le_of_ble_eq_true rfl)⟩ ⟨(Nat.le_of_ble_eq_true rfl), (Nat.le_of_ble_eq_true rfl)⟩ (fun u6 H locs q7 hP hD hS => ?_)
      obtain ⟨q7_0, q7_1⟩ := q7
      have hP : va_P g.1 vwCl [(h0, .inr (12, [.int mthrown, .ref a1, .ref a2, .ref a3, .ref a4, .int mtaped, .ref a6, .int msize, .int mat, .int mfrom, .int mtoken, .int mvalue, .int mfaultKind, .int mfaultPlace, .ref a14, .ref a15, .int mgoal, .int mgoalDays, .int mgoalHearer, .ref a19, .ref a20, .int mleastOrder, .int mwordsMany, .ref a23, .ref a24, .ref a25, .ref a26, .ref a27, .ref a28])), (a1, .inl (g.2 0, 225, .inl mworld))] H := hP
      have hD : va_D A [(h0, .inr (12, [.int mthrown, .ref a1, .ref a2, .ref a3, .ref a4, .int mtaped, .ref a6, .int msize, .int mat, .int mfrom, .int mtoken, .int mvalue, .int mfaultKind, .int mfaultPlace, .ref a14, .ref a15, .int mgoal, .int mgoalDays, .int mgoalHearer, .ref a19, .ref a20, .int mleastOrder, .int mwordsMany, .ref a23, .ref a24, .ref a25, .ref a26, .ref a27, .ref a28])), (a1, .inl (g.2 0, 225, .inl mworld))] := hD
      refine W.eq (g2 := F0 m 13 ls [.int (u6.1 0)]) rfl ?_
      rcases (show (u6.1 0).toInt = 0 ∨ (u6.1 0).toInt = 1 by omega) with c8 | c8
      · skip
        refine lv_if_ne (tgt := 19) hx hb dX12_calm_13 (by decide) (fun c9 => ?_) (fun c9 => ?_)
        · have c9 := k_ne (a := (u6.1 0).toInt) (b := 0) rfl (by decide) c9
          exfalso; omega
        · have c9 := k_eq (a := (u6.1 0).toInt) (b := 0) rfl (by decide) c9
          refine lv_bipush (v := -2) hx hb dX12_calm_16 (by decide) ?_
          exact rt_i FX ((fun k => match k with | 0 => (-2 : Int32) | _ => 0), (fun _ => fun _ => 0), (fun _ => fun _ => 0)) rfl trivial (hP.sub [0, 1] rfl) (hD.sub [0, 1] (by decide) rfl) hS (Nat.le_of_ble_eq_true rfl) (Nat.le_of_ble_eq_true rfl) dX12_calm_18
      · have c8_r := q7_1 c8
        refine lv_if_ne (tgt := 19) hx hb dX12_calm_13 (by decide) (fun c10 => ?_) (fun c10 => ?_)
        · have c10 := k_ne (a := (u6.1 0).toInt) (b := 0) rfl (by decide) c10
          refine lv_iconst (v := 0) hx hb dX12_calm_19 (by decide) ?_
          refine lv_istore_n (lv' := [(3, .int 0), (0, .ref h0), (1, .int p1), (2, .int p2)]) hx hb dX12_calm_20 rfl hl (by decide) rfl (fun ls hl => ?_)
          refine lv_iconst (v := 0) hx hb dX12_calm_21 (by decide) ?_
          refine lv_istore (lv' := [(4, .int 0), (3, .int 0), (0, .ref h0), (1, .int p1), (2, .int p2)]) hx hb dX12_calm_22 hl (by decide) rfl (fun ls hl => ?_)
          have lp122 : ∀ (n124 : Nat) (x120 : Int32) (x121 : Int32) (H : Heap) (locs : List Loc) (ls : Array Slot), 0 ≤ x120.toInt ∧ x120.toInt ≤ 8 → (8 - x120.toInt).toNat < n124 → va_P g.1 vwCl [(h0, .inr (12, [.int mthrown, .ref a1, .ref a2, .ref a3, .ref a4, .int mtaped, .ref a6, .int msize, .int mat, .int mfrom, .int mtoken, .int mvalue, .int mfaultKind, .int mfaultPlace, .ref a14, .ref a15, .int mgoal, .int mgoalDays, .int mgoalHearer, .ref a19, .ref a20, .int mleastOrder, .int mwordsMany, .ref a23, .ref a24, .ref a25, .ref a26, .ref a27, .ref a28])), (a1, .inl (g.2 0, 225, .inl mworld))] H → va_D A [(h0, .inr (12, [.int mthrown, .ref a1, .ref a2, .ref a3, .ref a4, .int mtaped, .ref a6, .int msize, .int mat, .int mfrom, .int mtoken, .int mvalue, .int mfaultKind, .int mfaultPlace, .ref a14, .ref a15, .int mgoal, .int mgoalDays, .int mgoalHearer, .ref a19, .ref a20, .int mleastOrder, .int mwordsMany, .ref a23, .ref a24, .ref a25, .ref a26, .ref a27, .ref a28])), (a1, .inl (g.2 0, 225, .inl mworld))] → va_S A s.heap H locs → lv_has ls 5 [(4, .int x120), (3, .int x121), (0, .ref h0), (1, .int p1), (2, .int p2)] → W p l e { frames := 3, cells := 0, slots := 0, locals := 72 } s m ([.ref h0, .int p1, .int p2].toArray) below meth c H locs 0 0 (MQ below (QX (S := (Nat → Int32) × (Nat → Nat → Int32) × (Nat → Nat → Int64)) (fun u => some (.int (u.1 0))) (fun u => True) g (fun u => [(h0, .inr (12, [.int mthrown, .ref a1, .ref a2, .ref a3, .ref a4, .int mtaped, .ref a6, .int msize, .int mat, .int mfrom, .int mtoken, .int mvalue, .int mfaultKind, .int mfaultPlace, .ref a14, .ref a15, .int mgoal, .int mgoalDays, .int mgoalHearer, .ref a19, .ref a20, .int mleastOrder, .int mwordsMany, .ref a23, .ref a24, .ref a25, .ref a26, .ref a27, .ref a28])), (a1, .inl (g.2 0, 225, .inl mworld))]) A) ([.ref h0, .int p1, .int p2].toArray) s 0 0 A) (F0 m 24 ls []) := by
            intro n124
            induction n124 with
            | zero =>
              intro x120 x121 H locs ls h_x120 hn125
              exact absurd hn125 (Nat.not_lt_zero _)
            | succ n124 ih123 =>
              intro x120 x121 H locs ls h_x120 hn125 hP hD hS hl
              refine lv_iload hx hb dX12_calm_24 (lv_at hl 0 rfl) ?_
              refine lv_aload_n hx hb dX12_calm_26 rfl (lv_at hl 2 rfl) ?_
              refine g_get (C := RX12) (T := TX12) (N := 29) (ci := 12) (v := .ref a1) FC hKn hP i_X12 0 rfl rfl 1 (by decide) b_801 rfl dX12_calm_27 ?_
              refine lv_iconst (v := 0) hx hb dX12_calm_30 (by decide) ?_
              refine va_iald hx hb hKn.1 hP 1 0 rfl rfl (by unfold vp_in; decide) dX12_calm_31 ?_
              have kc0 : (0 : Int32).toInt = 0 := by decide
              refine lv_topi (fun z126 e_z126 => ?_)
              have t_z126 : 0 ≤ z126.toInt ∧ z126.toInt ≤ 8 := by rw [e_z126]; exact wk_0 i_mworld.1
              have q_z126 : z126.toInt = (mworld 0).toInt := by rw [e_z126]; rfl
              refine lv_icmp_ge (tgt := 65) hx hb dX12_calm_32 (by decide) (fun c127 => ?_) (fun c127 => ?_)
              · have c127 := k_le (a := z126.toInt) (b := x120.toInt) rfl rfl c127
                refine lv_iload_n hx hb dX12_calm_65 rfl (lv_at hl 1 rfl) ?_
                exact rt_i FX ((fun k => match k with | 0 => x121 | _ => 0), (fun _ => fun _ => 0), (fun _ => fun _ => 0)) rfl trivial (hP.sub [0, 1] rfl) (hD.sub [0, 1] (by decide) rfl) hS (Nat.le_of_ble_eq_true rfl) (Nat.le_of_ble_eq_true rfl) dX12_calm_66
              · have c127 := k_nle (a := z126.toInt) (b := x120.toInt) rfl rfl c127
                refine lv_iload_n hx hb dX12_calm_35 rfl (lv_at hl 1 rfl) ?_
                refine lv_aload_n hx hb dX12_calm_36 rfl (lv_at hl 2 rfl) ?_
                refine lv_iload_n hx hb dX12_calm_37 rfl (lv_at hl 3 rfl) ?_
                refine lv_iload_n hx hb dX12_calm_38 rfl (lv_at hl 4 rfl) ?_
                refine lv_iconst (v := 1) hx hb dX12_calm_39 (by decide) ?_
                refine lv_iload hx hb dX12_calm_40 (lv_at hl 0 rfl) ?_
                refine lv_ishl hx hb dX12_calm_42 ?_
                refine lv_topi (fun z128 e_z128 => ?_)
                have t_z128 : 1 ≤ z128.toInt ∧ z128.toInt ≤ 128 := by rw [e_z128]; exact shl_b (n := 7) (by omega) (by omega) (by decide)
                refine call_V (As := [.int p1, .int p2, .int z128]) (rest := [.int x121]) (wr := []) FC hKn hZ (k_X12_rise l g h0 a1 a2 a3 a4 a6 a14 a15 a19 a20 a23 a24 a25 a26 a27 a28 mthrown mtaped msize mat mfrom mtoken mvalue mfaultKind mfaultPlace mgoal mgoalDays mgoalHearer mleastOrder mwordsMany mworld p1 p2 z128 (by omega) (by omega) (by omega) (by omega) (by omega) (by omega) (by omega) (by omega) i_mworld (by omega) (by omega) (by omega)) m_yX12_rise b_855 (ci := 12) rfl rfl rfl hP hD hS hA [0, 1] [] rfl (by decide) rfl (by decide) (by decide) rfl hl.1 rfl (Nat.le_of_ble_eq_true rfl) dX12_calm_43 ⟨(Nat.le_of_ble_eq_true rfl), (Nat.le_of_ble_eq_true rfl)⟩ ⟨(Nat.le_of_ble_eq_true rfl), (Nat.le_of_ble_eq_true rfl)⟩ (fun u129 H locs q130 hP hD hS => ?_)
                have hP : va_P g.1 vwCl [(h0, .inr (12, [.int mthrown, .ref a1, .ref a2, .ref a3, .ref a4, .int mtaped, .ref a6, .int msize, .int mat, .int mfrom, .int mtoken, .int mvalue, .int mfaultKind, .int mfaultPlace, .ref a14, .ref a15, .int mgoal, .int mgoalDays, .int mgoalHearer, .ref a19, .ref a20, .int mleastOrder, .int mwordsMany, .ref a23, .ref a24, .ref a25, .ref a26, .ref a27, .ref a28])), (a1, .inl (g.2 0, 225, .inl mworld))] H := hP
                have hD : va_D A [(h0, .inr (12, [.int mthrown, .ref a1, .ref a2, .ref a3, .ref a4, .int mtaped, .ref a6, .int msize, .int mat, .int mfrom, .int mtoken, .int mvalue, .int mfaultKind, .int mfaultPlace, .ref a14, .ref a15, .int mgoal, .int mgoalDays, .int mgoalHearer, .ref a19, .ref a20, .int mleastOrder, .int mwordsMany, .ref a23, .ref a24, .ref a25, .ref a26, .ref a27, .ref a28])), (a1, .inl (g.2 0, 225, .inl mworld))] := hD
                refine W.eq (g2 := F0 m 46 ls [.int (u129.1 0), .int x121]) rfl ?_
                refine lv_if_ne (tgt := 56) hx hb dX12_calm_46 (by decide) (fun c131 => ?_) (fun c131 => ?_)
                · have c131 := k_ne (a := (u129.1 0).toInt) (b := 0) rfl (by decide) c131
                  refine lv_iconst (v := 0) hx hb dX12_calm_56 (by decide) ?_
                  refine lv_ior hx hb dX12_calm_57 ?_
                  refine lv_topi (fun z132 e_z132 => ?_)
                  refine lv_istore_n (lv' := [(3, .int z132), (4, .int x120), (0, .ref h0), (1, .int p1), (2, .int p2)]) hx hb dX12_calm_58 rfl hl (by decide) rfl (fun ls hl => ?_)
                  obtain ⟨z133, e_z133⟩ : ∃ y : Int32, y = x120 + 1 := ⟨_, rfl⟩
                  have t_z133 : z133.toInt = x120.toInt + 1 := by rw [e_z133]; exact addk (by decide) (by omega) (by omega)
                  refine lv_iinc (v := z133) (lv' := [(4, .int z133), (3, .int z132), (0, .ref h0), (1, .int p1), (2, .int p2)]) hx hb dX12_calm_59 hl (k := 1) rfl (by rw [e_z133]; rfl) (by decide) rfl (fun ls hl => ?_)
                  refine lv_goto (tgt := 24) hx hb dX12_calm_62 (by decide) ?_
                  exact ih123 z133 z132 _ _ ls (by omega) (by omega) hP hD hS (lv_sub hl [0, 1, 2, 3, 4] rfl)
                · have c131 := k_eq (a := (u129.1 0).toInt) (b := 0) rfl (by decide) c131
                  refine lv_iconst (v := 1) hx hb dX12_calm_49 (by decide) ?_
                  refine lv_iload hx hb dX12_calm_50 (lv_at hl 0 rfl) ?_
                  refine lv_ishl hx hb dX12_calm_52 ?_
                  refine lv_topi (fun z134 e_z134 => ?_)
                  have t_z134 : 1 ≤ z134.toInt ∧ z134.toInt ≤ 128 := by rw [e_z134]; exact shl_b (n := 7) (by omega) (by omega) (by decide)
                  refine lv_goto (tgt := 57) hx hb dX12_calm_53 (by decide) ?_
                  refine lv_ior hx hb dX12_calm_57 ?_
                  refine lv_topi (fun z135 e_z135 => ?_)
                  refine lv_istore_n (lv' := [(3, .int z135), (4, .int x120), (0, .ref h0), (1, .int p1), (2, .int p2)]) hx hb dX12_calm_58 rfl hl (by decide) rfl (fun ls hl => ?_)
                  obtain ⟨z136, e_z136⟩ : ∃ y : Int32, y = x120 + 1 := ⟨_, rfl⟩
                  have t_z136 : z136.toInt = x120.toInt + 1 := by rw [e_z136]; exact addk (by decide) (by omega) (by omega)
                  refine lv_iinc (v := z136) (lv' := [(4, .int z136), (3, .int z135), (0, .ref h0), (1, .int p1), (2, .int p2)]) hx hb dX12_calm_59 hl (k := 1) rfl (by rw [e_z136]; rfl) (by decide) rfl (fun ls hl => ?_)
                  refine lv_goto (tgt := 24) hx hb dX12_calm_62 (by decide) ?_
                  exact ih123 z136 z135 _ _ ls (by omega) (by omega) hP hD hS (lv_sub hl [0, 1, 2, 3, 4] rfl)
          have kc0 : (0 : Int32).toInt = 0 := by decide
          exact lp122 _ (0 : Int32) (0 : Int32) _ _ ls (by decide) (Nat.lt_succ_self _) hP hD hS (lv_sub hl [0, 1, 2, 3, 4] rfl)
        · have c10 := k_eq (a := (u6.1 0).toInt) (b := 0) rfl (by decide) c10
          exfalso; omega
set_option maxRecDepth 100000 in
set_option maxHeartbeats 4000000 in
theorem k_X12_shock (l : Launch) (g : GG) (h0 : Nat) (a1 : Nat) (a2 : Nat) (a3 : Nat) (a4 : Nat) (a6 : Nat) (a14 : Nat) (a15 : Nat) (a19 : Nat) (a20 : Nat) (a23 : Nat) (a24 : Nat) (a25 : Nat) (a26 : Nat) (a27 : Nat) (a28 : Nat) (mthrown : Int32) (mtaped : Int32) (msize : Int32) (mat : Int32) (mfrom : Int32) (mtoken : Int32) (mvalue : Int32) (mfaultKind : Int32) (mfaultPlace : Int32) (mgoal : Int32) (mgoalDays : Int32) (mgoalHearer : Int32) (mleastOrder : Int32) (mwordsMany : Int32) (mworld : Nat → Int32) (p1 : Int32) (i_mtaped : 0 ≤ mtaped.toInt ∧ mtaped.toInt ≤ 900) (i_msize : 0 ≤ msize.toInt ∧ msize.toInt ≤ 900) (i_mat : 0 ≤ mat.toInt ∧ mat.toInt ≤ 900) (i_mfrom : 0 ≤ mfrom.toInt ∧ mfrom.toInt ≤ 900) (i_mtoken : 0 ≤ mtoken.toInt ∧ mtoken.toInt ≤ 4) (i_mvalue : 0 ≤ mvalue.toInt ∧ mvalue.toInt ≤ 99999) (i_mgoalHearer : 0 ≤ mgoalHearer.toInt ∧ mgoalHearer.toInt ≤ 3) (i_mwordsMany : 0 ≤ mwordsMany.toInt ∧ mwordsMany.toInt ≤ 10) (i_mworld : wod mworld) : Ct l g yX12_shock cX12_shock 4 (some .int) { frames := 3, cells := 0, slots := 0, locals := 72 } [.ref h0, .int p1] [(h0, .inr (12, [.int mthrown, .ref a1, .ref a2, .ref a3, .ref a4, .int mtaped, .ref a6, .int msize, .int mat, .int mfrom, .int mtoken, .int mvalue, .int mfaultKind, .int mfaultPlace, .ref a14, .ref a15, .int mgoal, .int mgoalDays, .int mgoalHearer, .ref a19, .ref a20, .int mleastOrder, .int mwordsMany, .ref a23, .ref a24, .ref a25, .ref a26, .ref a27, .ref a28])), (a1, .inl (g.2 0, 225, .inl mworld))] (S := (Nat → Int32) × (Nat → Nat → Int32) × (Nat → Nat → Int64)) (fun u => some (.int (u.1 0))) (fun u => True) (fun u => [(h0, .inr (12, [.int mthrown, .ref a1, .ref a2, .ref a3, .ref a4, .int mtaped, .ref a6, .int msize, .int mat, .int mfrom, .int mtoken, .int mvalue, .int mfaultKind, .int mfaultPlace, .ref a14, .ref a15, .int mgoal, .int mgoalDays, .int mgoalHearer, .ref a19, .ref a20, .int mleastOrder, .int mwordsMany, .ref a23, .ref a24, .ref a25, .ref a26, .ref a27, .ref a28])), (a1, .inl (g.2 0, 225, .inl mworld))]) := by
  refine Ct.of (by decide) (Nat.le_of_ble_eq_true rfl) ?_
  intro p e s m below meth c A ls FX hP hD hS hl
  obtain ⟨FC, hr, hlk, hKn, hA, hnm, hZ⟩ := id FX
  have FC : CallFix p m c cX12_shock 4 s _ BIG RX12 := FC
  obtain ⟨hx, hb, hml, hown, hB⟩ := id FC
  have hl : lv_has ls 4 [(0, .ref h0), (1, .int p1)] := hl
  refine lv_aload_n hx hb dX12_shock_0 rfl (lv_at hl 0 rfl) ?_
  refine lv_iload_n hx hb dX12_shock_1 rfl (lv_at hl 1 rfl) ?_
  refine call_V (As := [.int p1]) (rest := []) (wr := []) FC hKn hZ (k_X12_isHearer l g h0 a1 a2 a3 a4 a6 a14 a15 a19 a20 a23 a24 a25 a26 a27 a28 mthrown mtaped msize mat mfrom mtoken mvalue mfaultKind mfaultPlace mgoal mgoalDays mgoalHearer mleastOrder mwordsMany mworld p1 (by omega) (by omega) (by omega) (by omega) (by omega) (by omega) (by omega) (by omega) i_mworld) m_yX12_isHearer b_881 (ci := 12) rfl rfl rfl hP hD hS hA [0, 1] [] rfl (by decide) rfl (by decide) (by decide) rfl hl.1 rfl (Nat.le_of_ble_eq_true rfl) dX12_shock_2 ⟨(Nat.le_of_ble_eq_true rfl), (Nat.le_of_ble_eq_true rfl)⟩ ⟨(Nat.le_of_ble_eq_true rfl), (Nat.le_of_ble_eq_true rfl)⟩ (fun u1 H locs q2 hP hD hS => ?_)
  obtain ⟨q2_0, q2_1⟩ := q2
  have hP : va_P g.1 vwCl [(h0, .inr (12, [.int mthrown, .ref a1, .ref a2, .ref a3, .ref a4, .int mtaped, .ref a6, .int msize, .int mat, .int mfrom, .int mtoken, .int mvalue, .int mfaultKind, .int mfaultPlace, .ref a14, .ref a15, .int mgoal, .int mgoalDays, .int mgoalHearer, .ref a19, .ref a20, .int mleastOrder, .int mwordsMany, .ref a23, .ref a24, .ref a25, .ref a26, .ref a27, .ref a28])), (a1, .inl (g.2 0, 225, .inl mworld))] H := hP
  have hD : va_D A [(h0, .inr (12, [.int mthrown, .ref a1, .ref a2, .ref a3, .ref a4, .int mtaped, .ref a6, .int msize, .int mat, .int mfrom, .int mtoken, .int mvalue, .int mfaultKind, .int mfaultPlace, .ref a14, .ref a15, .int mgoal, .int mgoalDays, .int mgoalHearer, .ref a19, .ref a20, .int mleastOrder, .int mwordsMany, .ref a23, .ref a24, .ref a25, .ref a26, .ref a27, .ref a28])), (a1, .inl (g.2 0, 225, .inl mworld))] := hD
  refine W.eq (g2 := F0 m 5 ls [.int (u1.1 0)]) rfl ?_
  rcases (show (u1.1 0).toInt = 0 ∨ (u1.1 0).toInt = 1 by omega) with c3 | c3
  · skip
    refine lv_if_ne (tgt := 11) hx hb dX12_shock_5 (by decide) (fun c4 => ?_) (fun c4 => ?_)
    · have c4 := k_ne (a := (u1.1 0).toInt) (b := 0) rfl (by decide) c4
      exfalso; omega
    · have c4 := k_eq (a := (u1.1 0).toInt) (b := 0) rfl (by decide) c4
      refine lv_bipush (v := -2) hx hb dX12_shock_8 (by decide) ?_
      exact rt_i FX ((fun k => match k with | 0 => (-2 : Int32) | _ => 0), (fun _ => fun _ => 0), (fun _ => fun _ => 0)) rfl trivial (hP.sub [0, 1] rfl) (hD.sub [0, 1] (by decide) rfl) hS (Nat.le_of_ble_eq_true rfl) (Nat.le_of_ble_eq_true rfl) dX12_shock_10
  · have c3_r := q2_1 c3
    refine lv_if_ne (tgt := 11) hx hb dX12_shock_5 (by decide) (fun c5 => ?_) (fun c5 => ?_)
    · have c5 := k_ne (a := (u1.1 0).toInt) (b := 0) rfl (by decide) c5
      refine lv_iconst (v := 0) hx hb dX12_shock_11 (by decide) ?_
      refine lv_istore_n (lv' := [(2, .int 0), (0, .ref h0), (1, .int p1)]) hx hb dX12_shock_12 rfl hl (by decide) rfl (fun ls hl => ?_)
      refine lv_iconst (v := 1) hx hb dX12_shock_13 (by decide) ?_
      refine lv_istore_n (lv' := [(3, .int 1), (2, .int 0), (0, .ref h0), (1, .int p1)]) hx hb dX12_shock_14 rfl hl (by decide) rfl (fun ls hl => ?_)
      have lp36 : ∀ (n38 : Nat) (x34 : Int32) (x35 : Int32) (H : Heap) (locs : List Loc) (ls : Array Slot), 1 ≤ x34.toInt ∧ x34.toInt ≤ 8 → 0 ≤ x35.toInt ∧ x35.toInt ≤ 7 → (8 - x34.toInt).toNat < n38 → va_P g.1 vwCl [(h0, .inr (12, [.int mthrown, .ref a1, .ref a2, .ref a3, .ref a4, .int mtaped, .ref a6, .int msize, .int mat, .int mfrom, .int mtoken, .int mvalue, .int mfaultKind, .int mfaultPlace, .ref a14, .ref a15, .int mgoal, .int mgoalDays, .int mgoalHearer, .ref a19, .ref a20, .int mleastOrder, .int mwordsMany, .ref a23, .ref a24, .ref a25, .ref a26, .ref a27, .ref a28])), (a1, .inl (g.2 0, 225, .inl mworld))] H → va_D A [(h0, .inr (12, [.int mthrown, .ref a1, .ref a2, .ref a3, .ref a4, .int mtaped, .ref a6, .int msize, .int mat, .int mfrom, .int mtoken, .int mvalue, .int mfaultKind, .int mfaultPlace, .ref a14, .ref a15, .int mgoal, .int mgoalDays, .int mgoalHearer, .ref a19, .ref a20, .int mleastOrder, .int mwordsMany, .ref a23, .ref a24, .ref a25, .ref a26, .ref a27, .ref a28])), (a1, .inl (g.2 0, 225, .inl mworld))] → va_S A s.heap H locs → lv_has ls 4 [(3, .int x34), (2, .int x35), (0, .ref h0), (1, .int p1)] → W p l e { frames := 3, cells := 0, slots := 0, locals := 72 } s m ([.ref h0, .int p1].toArray) below meth c H locs 0 0 (MQ below (QX (S := (Nat → Int32) × (Nat → Nat → Int32) × (Nat → Nat → Int64)) (fun u => some (.int (u.1 0))) (fun u => True) g (fun u => [(h0, .inr (12, [.int mthrown, .ref a1, .ref a2, .ref a3, .ref a4, .int mtaped, .ref a6, .int msize, .int mat, .int mfrom, .int mtoken, .int mvalue, .int mfaultKind, .int mfaultPlace, .ref a14, .ref a15, .int mgoal, .int mgoalDays, .int mgoalHearer, .ref a19, .ref a20, .int mleastOrder, .int mwordsMany, .ref a23, .ref a24, .ref a25, .ref a26, .ref a27, .ref a28])), (a1, .inl (g.2 0, 225, .inl mworld))]) A) ([.ref h0, .int p1].toArray) s 0 0 A) (F0 m 15 ls []) := by
        intro n38
        induction n38 with
        | zero =>
          intro x34 x35 H locs ls h_x34 h_x35 hn39
          exact absurd hn39 (Nat.not_lt_zero _)
        | succ n38 ih37 =>
          intro x34 x35 H locs ls h_x34 h_x35 hn39 hP hD hS hl
          refine lv_iload_n hx hb dX12_shock_15 rfl (lv_at hl 0 rfl) ?_
          refine lv_aload_n hx hb dX12_shock_16 rfl (lv_at hl 2 rfl) ?_
          refine g_get (C := RX12) (T := TX12) (N := 29) (ci := 12) (v := .ref a1) FC hKn hP i_X12 0 rfl rfl 1 (by decide) b_801 rfl dX12_shock_17 ?_
          refine lv_iconst (v := 0) hx hb dX12_shock_20 (by decide) ?_
          refine va_iald hx hb hKn.1 hP 1 0 rfl rfl (by unfold vp_in; decide) dX12_shock_21 ?_
          have kc0 : (0 : Int32).toInt = 0 := by decide
          refine lv_topi (fun z40 e_z40 => ?_)
          have t_z40 : 0 ≤ z40.toInt ∧ z40.toInt ≤ 8 := by rw [e_z40]; exact wk_0 i_mworld.1
          have q_z40 : z40.toInt = (mworld 0).toInt := by rw [e_z40]; rfl
          refine lv_icmp_ge (tgt := 64) hx hb dX12_shock_22 (by decide) (fun c41 => ?_) (fun c41 => ?_)
          · have c41 := k_le (a := z40.toInt) (b := x34.toInt) rfl rfl c41
            refine lv_iload_n hx hb dX12_shock_64 rfl (lv_at hl 1 rfl) ?_
            exact rt_i FX ((fun k => match k with | 0 => x35 | _ => 0), (fun _ => fun _ => 0), (fun _ => fun _ => 0)) rfl trivial (hP.sub [0, 1] rfl) (hD.sub [0, 1] (by decide) rfl) hS (Nat.le_of_ble_eq_true rfl) (Nat.le_of_ble_eq_true rfl) dX12_shock_65
          · have c41 := k_nle (a := z40.toInt) (b := x34.toInt) rfl rfl c41
            refine lv_aload_n hx hb dX12_shock_25 rfl (lv_at hl 2 rfl) ?_
            refine lv_iload_n hx hb dX12_shock_26 rfl (lv_at hl 3 rfl) ?_
            refine lv_aload_n hx hb dX12_shock_27 rfl (lv_at hl 2 rfl) ?_
            refine call_V (As := []) (rest := [.int p1, .ref h0]) (wr := []) FC hKn hZ (k_X12_allStates l g h0 a1 a2 a3 a4 a6 a14 a15 a19 a20 a23 a24 a25 a26 a27 a28 mthrown mtaped msize mat mfrom mtoken mvalue mfaultKind mfaultPlace mgoal mgoalDays mgoalHearer mleastOrder mwordsMany mworld (by omega) (by omega) (by omega) (by omega) (by omega) (by omega) (by omega) (by omega) i_mworld) m_yX12_allStates b_806 (ci := 12) rfl rfl rfl hP hD hS hA [0, 1] [] rfl (by decide) rfl (by decide) (by decide) rfl hl.1 rfl (Nat.le_of_ble_eq_true rfl) dX12_shock_28 ⟨(Nat.le_of_ble_eq_true rfl), (Nat.le_of_ble_eq_true rfl)⟩ ⟨(Nat.le_of_ble_eq_true rfl), (Nat.le_of_ble_eq_true rfl)⟩ (fun u42 H locs q43 hP hD hS => ?_)
            obtain ⟨q43_0, q43_1, q43_2⟩ := q43
            have hP : va_P g.1 vwCl [(h0, .inr (12, [.int mthrown, .ref a1, .ref a2, .ref a3, .ref a4, .int mtaped, .ref a6, .int msize, .int mat, .int mfrom, .int mtoken, .int mvalue, .int mfaultKind, .int mfaultPlace, .ref a14, .ref a15, .int mgoal, .int mgoalDays, .int mgoalHearer, .ref a19, .ref a20, .int mleastOrder, .int mwordsMany, .ref a23, .ref a24, .ref a25, .ref a26, .ref a27, .ref a28])), (a1, .inl (g.2 0, 225, .inl mworld))] H := hP
            have hD : va_D A [(h0, .inr (12, [.int mthrown, .ref a1, .ref a2, .ref a3, .ref a4, .int mtaped, .ref a6, .int msize, .int mat, .int mfrom, .int mtoken, .int mvalue, .int mfaultKind, .int mfaultPlace, .ref a14, .ref a15, .int mgoal, .int mgoalDays, .int mgoalHearer, .ref a19, .ref a20, .int mleastOrder, .int mwordsMany, .ref a23, .ref a24, .ref a25, .ref a26, .ref a27, .ref a28])), (a1, .inl (g.2 0, 225, .inl mworld))] := hD
            refine W.eq (g2 := F0 m 31 ls [.int (u42.1 0), .int p1, .ref h0]) rfl ?_
            rw [q43_1] at q43_0
            rw [q43_1] at q43_2
            refine tp_i (v := asF mworld) q43_1 ?_
            refine lv_iconst (v := 1) hx hb dX12_shock_31 (by decide) ?_
            refine lv_iload_n hx hb dX12_shock_32 rfl (lv_at hl 0 rfl) ?_
            refine lv_ishl hx hb dX12_shock_33 ?_
            refine lv_topi (fun z44 e_z44 => ?_)
            have t_z44 : 1 ≤ z44.toInt ∧ z44.toInt ≤ 128 := by rw [e_z44]; exact shl_b (n := 7) (by omega) (by omega) (by decide)
            refine call_V (As := [.int p1, .int (asF mworld), .int z44]) (rest := []) (wr := []) FC hKn hZ (k_X12_rise l g h0 a1 a2 a3 a4 a6 a14 a15 a19 a20 a23 a24 a25 a26 a27 a28 mthrown mtaped msize mat mfrom mtoken mvalue mfaultKind mfaultPlace mgoal mgoalDays mgoalHearer mleastOrder mwordsMany mworld p1 (asF mworld) z44 (by omega) (by omega) (by omega) (by omega) (by omega) (by omega) (by omega) (by omega) i_mworld (by omega) (by omega) (by omega)) m_yX12_rise b_855 (ci := 12) rfl rfl rfl hP hD hS hA [0, 1] [] rfl (by decide) rfl (by decide) (by decide) rfl hl.1 rfl (Nat.le_of_ble_eq_true rfl) dX12_shock_34 ⟨(Nat.le_of_ble_eq_true rfl), (Nat.le_of_ble_eq_true rfl)⟩ ⟨(Nat.le_of_ble_eq_true rfl), (Nat.le_of_ble_eq_true rfl)⟩ (fun u45 H locs q46 hP hD hS => ?_)
            have hP : va_P g.1 vwCl [(h0, .inr (12, [.int mthrown, .ref a1, .ref a2, .ref a3, .ref a4, .int mtaped, .ref a6, .int msize, .int mat, .int mfrom, .int mtoken, .int mvalue, .int mfaultKind, .int mfaultPlace, .ref a14, .ref a15, .int mgoal, .int mgoalDays, .int mgoalHearer, .ref a19, .ref a20, .int mleastOrder, .int mwordsMany, .ref a23, .ref a24, .ref a25, .ref a26, .ref a27, .ref a28])), (a1, .inl (g.2 0, 225, .inl mworld))] H := hP
            have hD : va_D A [(h0, .inr (12, [.int mthrown, .ref a1, .ref a2, .ref a3, .ref a4, .int mtaped, .ref a6, .int msize, .int mat, .int mfrom, .int mtoken, .int mvalue, .int mfaultKind, .int mfaultPlace, .ref a14, .ref a15, .int mgoal, .int mgoalDays, .int mgoalHearer, .ref a19, .ref a20, .int mleastOrder, .int mwordsMany, .ref a23, .ref a24, .ref a25, .ref a26, .ref a27, .ref a28])), (a1, .inl (g.2 0, 225, .inl mworld))] := hD
            refine W.eq (g2 := F0 m 37 ls [.int (u45.1 0)]) rfl ?_
            refine lv_aload_n hx hb dX12_shock_37 rfl (lv_at hl 2 rfl) ?_
            refine lv_iload_n hx hb dX12_shock_38 rfl (lv_at hl 3 rfl) ?_
            refine lv_aload_n hx hb dX12_shock_39 rfl (lv_at hl 2 rfl) ?_
            refine call_V (As := []) (rest := [.int p1, .ref h0, .int (u45.1 0)]) (wr := []) FC hKn hZ (k_X12_allStates l g h0 a1 a2 a3 a4 a6 a14 a15 a19 a20 a23 a24 a25 a26 a27 a28 mthrown mtaped msize mat mfrom mtoken mvalue mfaultKind mfaultPlace mgoal mgoalDays mgoalHearer mleastOrder mwordsMany mworld (by omega) (by omega) (by omega) (by omega) (by omega) (by omega) (by omega) (by omega) i_mworld) m_yX12_allStates b_806 (ci := 12) rfl rfl rfl hP hD hS hA [0, 1] [] rfl (by decide) rfl (by decide) (by decide) rfl hl.1 rfl (Nat.le_of_ble_eq_true rfl) dX12_shock_40 ⟨(Nat.le_of_ble_eq_true rfl), (Nat.le_of_ble_eq_true rfl)⟩ ⟨(Nat.le_of_ble_eq_true rfl), (Nat.le_of_ble_eq_true rfl)⟩ (fun u47 H locs q48 hP hD hS => ?_)
            obtain ⟨q48_0, q48_1, q48_2⟩ := q48
            have hP : va_P g.1 vwCl [(h0, .inr (12, [.int mthrown, .ref a1, .ref a2, .ref a3, .ref a4, .int mtaped, .ref a6, .int msize, .int mat, .int mfrom, .int mtoken, .int mvalue, .int mfaultKind, .int mfaultPlace, .ref a14, .ref a15, .int mgoal, .int mgoalDays, .int mgoalHearer, .ref a19, .ref a20, .int mleastOrder, .int mwordsMany, .ref a23, .ref a24, .ref a25, .ref a26, .ref a27, .ref a28])), (a1, .inl (g.2 0, 225, .inl mworld))] H := hP
            have hD : va_D A [(h0, .inr (12, [.int mthrown, .ref a1, .ref a2, .ref a3, .ref a4, .int mtaped, .ref a6, .int msize, .int mat, .int mfrom, .int mtoken, .int mvalue, .int mfaultKind, .int mfaultPlace, .ref a14, .ref a15, .int mgoal, .int mgoalDays, .int mgoalHearer, .ref a19, .ref a20, .int mleastOrder, .int mwordsMany, .ref a23, .ref a24, .ref a25, .ref a26, .ref a27, .ref a28])), (a1, .inl (g.2 0, 225, .inl mworld))] := hD
            refine W.eq (g2 := F0 m 43 ls [.int (u47.1 0), .int p1, .ref h0, .int (u45.1 0)]) rfl ?_
            rw [q48_1] at q48_0
            rw [q48_1] at q48_2
            refine tp_i (v := asF mworld) q48_1 ?_
            refine lv_iconst (v := 1) hx hb dX12_shock_43 (by decide) ?_
            refine lv_iload_n hx hb dX12_shock_44 rfl (lv_at hl 1 rfl) ?_
            refine lv_ishl hx hb dX12_shock_45 ?_
            refine lv_topi (fun z49 e_z49 => ?_)
            have t_z49 : 1 ≤ z49.toInt ∧ z49.toInt ≤ 128 := by rw [e_z49]; exact shl_b (n := 7) (by omega) (by omega) (by decide)
            refine call_V (As := [.int p1, .int (asF mworld), .int z49]) (rest := [.int (u45.1 0)]) (wr := []) FC hKn hZ (k_X12_rise l g h0 a1 a2 a3 a4 a6 a14 a15 a19 a20 a23 a24 a25 a26 a27 a28 mthrown mtaped msize mat mfrom mtoken mvalue mfaultKind mfaultPlace mgoal mgoalDays mgoalHearer mleastOrder mwordsMany mworld p1 (asF mworld) z49 (by omega) (by omega) (by omega) (by omega) (by omega) (by omega) (by omega) (by omega) i_mworld (by omega) (by omega) (by omega)) m_yX12_rise b_855 (ci := 12) rfl rfl rfl hP hD hS hA [0, 1] [] rfl (by decide) rfl (by decide) (by decide) rfl hl.1 rfl (Nat.le_of_ble_eq_true rfl) dX12_shock_46 ⟨(Nat.le_of_ble_eq_true rfl), (Nat.le_of_ble_eq_true rfl)⟩ ⟨(Nat.le_of_ble_eq_true rfl), (Nat.le_of_ble_eq_true rfl)⟩ (fun u50 H locs q51 hP hD hS => ?_)
            have hP : va_P g.1 vwCl [(h0, .inr (12, [.int mthrown, .ref a1, .ref a2, .ref a3, .ref a4, .int mtaped, .ref a6, .int msize, .int mat, .int mfrom, .int mtoken, .int mvalue, .int mfaultKind, .int mfaultPlace, .ref a14, .ref a15, .int mgoal, .int mgoalDays, .int mgoalHearer, .ref a19, .ref a20, .int mleastOrder, .int mwordsMany, .ref a23, .ref a24, .ref a25, .ref a26, .ref a27, .ref a28])), (a1, .inl (g.2 0, 225, .inl mworld))] H := hP
            have hD : va_D A [(h0, .inr (12, [.int mthrown, .ref a1, .ref a2, .ref a3, .ref a4, .int mtaped, .ref a6, .int msize, .int mat, .int mfrom, .int mtoken, .int mvalue, .int mfaultKind, .int mfaultPlace, .ref a14, .ref a15, .int mgoal, .int mgoalDays, .int mgoalHearer, .ref a19, .ref a20, .int mleastOrder, .int mwordsMany, .ref a23, .ref a24, .ref a25, .ref a26, .ref a27, .ref a28])), (a1, .inl (g.2 0, 225, .inl mworld))] := hD
            refine W.eq (g2 := F0 m 49 ls [.int (u50.1 0), .int (u45.1 0)]) rfl ?_
            refine lv_icmp_le (tgt := 56) hx hb dX12_shock_49 (by decide) (fun c52 => ?_) (fun c52 => ?_)
            · have c52 := k_le (a := (u45.1 0).toInt) (b := (u50.1 0).toInt) rfl rfl c52
              refine lv_iload_n hx hb dX12_shock_56 rfl (lv_at hl 1 rfl) ?_
              refine lv_istore_n (lv' := [(2, .int x35), (3, .int x34), (0, .ref h0), (1, .int p1)]) hx hb dX12_shock_57 rfl hl (by decide) rfl (fun ls hl => ?_)
              obtain ⟨z53, e_z53⟩ : ∃ y : Int32, y = x34 + 1 := ⟨_, rfl⟩
              have t_z53 : z53.toInt = x34.toInt + 1 := by rw [e_z53]; exact addk (by decide) (by omega) (by omega)
              refine lv_iinc (v := z53) (lv' := [(3, .int z53), (2, .int x35), (0, .ref h0), (1, .int p1)]) hx hb dX12_shock_58 hl (k := 1) rfl (by rw [e_z53]; rfl) (by decide) rfl (fun ls hl => ?_)
              refine lv_goto (tgt := 15) hx hb dX12_shock_61 (by decide) ?_
              exact ih37 z53 x35 _ _ ls (by omega) (by omega) (by omega) hP hD hS (lv_sub hl [0, 1, 2, 3] rfl)
            · have c52 := k_nle (a := (u45.1 0).toInt) (b := (u50.1 0).toInt) rfl rfl c52
              refine lv_iload_n hx hb dX12_shock_52 rfl (lv_at hl 0 rfl) ?_
              refine lv_goto (tgt := 57) hx hb dX12_shock_53 (by decide) ?_
              refine lv_istore_n (lv' := [(2, .int x34), (3, .int x34), (0, .ref h0), (1, .int p1)]) hx hb dX12_shock_57 rfl hl (by decide) rfl (fun ls hl => ?_)
              obtain ⟨z54, e_z54⟩ : ∃ y : Int32, y = x34 + 1 := ⟨_, rfl⟩
              have t_z54 : z54.toInt = x34.toInt + 1 := by rw [e_z54]; exact addk (by decide) (by omega) (by omega)
              refine lv_iinc (v := z54) (lv' := [(3, .int z54), (2, .int x34), (0, .ref h0), (1, .int p1)]) hx hb dX12_shock_58 hl (k := 1) rfl (by rw [e_z54]; rfl) (by decide) rfl (fun ls hl => ?_)
              refine lv_goto (tgt := 15) hx hb dX12_shock_61 (by decide) ?_
              exact ih37 z54 x34 _ _ ls (by omega) (by omega) (by omega) hP hD hS (lv_sub hl [0, 1, 2, 3] rfl)
      have kc1 : (1 : Int32).toInt = 1 := by decide
      have kc0 : (0 : Int32).toInt = 0 := by decide
      exact lp36 _ (1 : Int32) (0 : Int32) _ _ ls (by decide) (by decide) (Nat.lt_succ_self _) hP hD hS (lv_sub hl [0, 1, 2, 3] rfl)
    · have c5 := k_eq (a := (u1.1 0).toInt) (b := 0) rfl (by decide) c5
      exfalso; omega
