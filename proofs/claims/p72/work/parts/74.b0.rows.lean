set_option maxRecDepth 100000 in
set_option maxHeartbeats 4000000 in
theorem k_X12_change (l : Launch) (g : GG) (h0 : Nat) (a1 : Nat) (a2 : Nat) (a3 : Nat) (a4 : Nat) (a6 : Nat) (a14 : Nat) (a15 : Nat) (a19 : Nat) (a20 : Nat) (a23 : Nat) (a24 : Nat) (a25 : Nat) (a26 : Nat) (a27 : Nat) (a28 : Nat) (mthrown : Int32) (mtaped : Int32) (msize : Int32) (mat : Int32) (mfrom : Int32) (mtoken : Int32) (mvalue : Int32) (mfaultKind : Int32) (mfaultPlace : Int32) (mgoal : Int32) (mgoalDays : Int32) (mgoalHearer : Int32) (mleastOrder : Int32) (mwordsMany : Int32) (mworld : Nat → Int32) (p1 : Int32) (p2 : Int32) (i_mtaped : 0 ≤ mtaped.toInt ∧ mtaped.toInt ≤ 900) (i_msize : 0 ≤ msize.toInt ∧ msize.toInt ≤ 900) (i_mat : 0 ≤ mat.toInt ∧ mat.toInt ≤ 900) (i_mfrom : 0 ≤ mfrom.toInt ∧ mfrom.toInt ≤ 900) (i_mtoken : 0 ≤ mtoken.toInt ∧ mtoken.toInt ≤ 4) (i_mvalue : 0 ≤ mvalue.toInt ∧ mvalue.toInt ≤ 99999) (i_mgoalHearer : 0 ≤ mgoalHearer.toInt ∧ mgoalHearer.toInt ≤ 3) (i_mwordsMany : 0 ≤ mwordsMany.toInt ∧ mwordsMany.toInt ≤ 10) (i_mworld : wod mworld) (hch : ((p1.toInt = 1 ∧ 0 ≤ p2.toInt ∧ p2.toInt ≤ 7) ∨ (11 ≤ p1.toInt ∧ p1.toInt ≤ 54 ∧ 0 ≤ p2.toInt ∧ p2.toInt ≤ 99))) : Ct l g yX12_change cX12_change 4 (some .int) { frames := 0, cells := 0, slots := 0, locals := 0 } [.ref h0, .int p1, .int p2] [(h0, .inr (12, [.int mthrown, .ref a1, .ref a2, .ref a3, .ref a4, .int mtaped, .ref a6, .int msize, .int mat, .int mfrom, .int mtoken, .int mvalue, .int mfaultKind, .int mfaultPlace, .ref a14, .ref a15, .int mgoal, .int mgoalDays, .int mgoalHearer, .ref a19, .ref a20, .int mleastOrder, .int mwordsMany, .ref a23, .ref a24, .ref a25, .ref a26, .ref a27, .ref a28])), (a1, .inl (g.2 0, 225, .inl mworld))] (S := (Nat → Int32) × (Nat → Nat → Int32) × (Nat → Nat → Int64)) (fun u => some (.int (u.1 0))) (fun u => (wod (u.2.1 0))) (fun u => [(h0, .inr (12, [.int mthrown, .ref a1, .ref a2, .ref a3, .ref a4, .int mtaped, .ref a6, .int msize, .int mat, .int mfrom, .int mtoken, .int mvalue, .int mfaultKind, .int mfaultPlace, .ref a14, .ref a15, .int mgoal, .int mgoalDays, .int mgoalHearer, .ref a19, .ref a20, .int mleastOrder, .int mwordsMany, .ref a23, .ref a24, .ref a25, .ref a26, .ref a27, .ref a28])), (a1, .inl (g.2 0, 225, .inl (u.2.1 0)))]) := by
  refine Ct.of (by decide) (Nat.le_of_ble_eq_true rfl) ?_
  intro p e s m below meth c A ls FX hP hD hS hl
  obtain ⟨FC, hr, hlk, hKn, hA, hnm, hZ⟩ := id FX
  have FC : CallFix p m c cX12_change 4 s _ BIG RX12 := FC
  obtain ⟨hx, hb, hml, hown, hB⟩ := id FC
  have hl : lv_has ls 4 [(0, .ref h0), (1, .int p1), (2, .int p2)] := hl
  have h10 := wk_10 i_mworld.1
  refine lv_aload_n hx hb dX12_change_0 rfl (lv_at hl 0 rfl) ?_
  refine g_get (C := RX12) (T := TX12) (N := 29) (ci := 12) (v := .ref a1) FC hKn hP i_X12 0 rfl rfl 1 (by decide) b_801 rfl dX12_change_1 ?_
  refine lv_bipush (v := 10) hx hb dX12_change_4 (by decide) ?_
  refine va_iald hx hb hKn.1 hP 1 0 rfl rfl (by unfold vp_in; decide) dX12_change_6 ?_
  have kc10 : (10 : Int32).toInt = 10 := by decide
  refine lv_topi (fun z1 e_z1 => ?_)
  have t_z1 : 0 ≤ z1.toInt ∧ z1.toInt ≤ 60 := by rw [e_z1]; exact wk_10 i_mworld.1
  have q_z1 : z1.toInt = (mworld 10).toInt := by rw [e_z1]; rfl
  refine lv_bipush (v := 60) hx hb dX12_change_7 (by decide) ?_
  refine lv_icmp_ne (tgt := 15) hx hb dX12_change_9 (by decide) (fun c2 => ?_) (fun c2 => ?_)
  · have c2 := k_ne (a := z1.toInt) (b := 60) rfl (by decide) c2
    refine lv_aload_n hx hb dX12_change_15 rfl (lv_at hl 0 rfl) ?_
    refine g_get (C := RX12) (T := TX12) (N := 29) (ci := 12) (v := .ref a1) FC hKn hP i_X12 0 rfl rfl 1 (by decide) b_801 rfl dX12_change_16 ?_
    refine lv_iload_n hx hb dX12_change_19 rfl (lv_at hl 1 rfl) ?_
    refine va_iald hx hb hKn.1 hP 1 0 rfl rfl (vp_in_iff.mpr ⟨by omega, by omega⟩) dX12_change_20 ?_
    refine lv_topi (fun z3 e_z3 => ?_)
    have q_z3 : z3.toInt = (mworld p1.toNatClampNeg).toInt := by rw [e_z3]
    have b_z3 : (p1.toInt = 1 ∧ 0 ≤ z3.toInt ∧ z3.toInt ≤ 7) ∨ (11 ≤ p1.toInt ∧ p1.toInt ≤ 54 ∧ 0 ≤ z3.toInt ∧ z3.toInt ≤ 99) := by
      rw [e_z3]
      rcases hch with q | q
      · have := wk_1 i_mworld.1; rw [ixe (x := p1) (n := 1) (by omega)]; omega
      · have := wk_g i_mworld.1 (x := p1) (by omega) (by omega); omega
    refine lv_istore_n (lv' := [(3, .int z3), (0, .ref h0), (1, .int p1), (2, .int p2)]) hx hb dX12_change_21 rfl hl (by decide) rfl (fun ls hl => ?_)
    refine lv_aload_n hx hb dX12_change_22 rfl (lv_at hl 1 rfl) ?_
    refine g_get (C := RX12) (T := TX12) (N := 29) (ci := 12) (v := .ref a1) FC hKn hP i_X12 0 rfl rfl 1 (by decide) b_801 rfl dX12_change_23 ?_
    refine lv_bipush (v := 105) hx hb dX12_change_26 (by decide) ?_
    refine lv_iconst (v := 2) hx hb dX12_change_28 (by decide) ?_
    refine lv_aload_n hx hb dX12_change_29 rfl (lv_at hl 1 rfl) ?_
    refine g_get (C := RX12) (T := TX12) (N := 29) (ci := 12) (v := .ref a1) FC hKn hP i_X12 0 rfl rfl 1 (by decide) b_801 rfl dX12_change_30 ?_
    refine lv_bipush (v := 10) hx hb dX12_change_33 (by decide) ?_
    refine va_iald hx hb hKn.1 hP 1 0 rfl rfl (by unfold vp_in; decide) dX12_change_35 ?_
    refine tp_i (v := z1) e_z1.symm ?_
    refine lv_imul hx hb dX12_change_36 ?_
    have kc2 : (2 : Int32).toInt = 2 := by decide
    refine lv_topi (fun z4 e_z4 => ?_)
    have t_z4 : z4.toInt = 2 * z1.toInt := by rw [e_z4, fb_mulI (by rw [show (2 : Int32).toInt = 2 by decide]; omega) (by rw [show (2 : Int32).toInt = 2 by decide]; omega), show (2 : Int32).toInt = 2 by decide]
    refine lv_iadd hx hb dX12_change_37 ?_
    have kc105 : (105 : Int32).toInt = 105 := by decide
    refine lv_topi (fun z5 e_z5 => ?_)
    have t_z5 : z5.toInt = ((105 : Int32)).toInt + z4.toInt := by rw [e_z5]; exact fb_addI (by omega) (by omega)
    refine lv_iload_n hx hb dX12_change_38 rfl (lv_at hl 2 rfl) ?_
    refine va_iast hx hb hKn.1 hP hD hS 1 0 rfl rfl (vp_in_iff.mpr ⟨by omega, by omega⟩) dX12_change_39 (fun H locs hP hD hS => ?_)
    have hP : va_P g.1 vwCl [(h0, .inr (12, [.int mthrown, .ref a1, .ref a2, .ref a3, .ref a4, .int mtaped, .ref a6, .int msize, .int mat, .int mfrom, .int mtoken, .int mvalue, .int mfaultKind, .int mfaultPlace, .ref a14, .ref a15, .int mgoal, .int mgoalDays, .int mgoalHearer, .ref a19, .ref a20, .int mleastOrder, .int mwordsMany, .ref a23, .ref a24, .ref a25, .ref a26, .ref a27, .ref a28])), (a1, .inl (g.2 0, 225, .inl (upd mworld (z5.toNatClampNeg) p1)))] H := hP
    have hD : va_D A [(h0, .inr (12, [.int mthrown, .ref a1, .ref a2, .ref a3, .ref a4, .int mtaped, .ref a6, .int msize, .int mat, .int mfrom, .int mtoken, .int mvalue, .int mfaultKind, .int mfaultPlace, .ref a14, .ref a15, .int mgoal, .int mgoalDays, .int mgoalHearer, .ref a19, .ref a20, .int mleastOrder, .int mwordsMany, .ref a23, .ref a24, .ref a25, .ref a26, .ref a27, .ref a28])), (a1, .inl (g.2 0, 225, .inl (upd mworld (z5.toNatClampNeg) p1)))] := hD
    have a_f6 : wod (upd mworld (z5.toNatClampNeg) p1) := ⟨wx_x i_mworld.1 (by omega), wx_w i_mworld.2 (by omega)⟩
    generalize E_f6 : (upd mworld (z5.toNatClampNeg) p1 : Nat → Int32) = f6 at hP hD a_f6
    have g_f6_10 : (f6 10).toInt = (mworld 10).toInt := by rw [← E_f6, uo (by have := cln (x := z5) (by omega); omega)]
    refine lv_aload_n hx hb dX12_change_40 rfl (lv_at hl 1 rfl) ?_
    refine g_get (C := RX12) (T := TX12) (N := 29) (ci := 12) (v := .ref a1) FC hKn hP i_X12 0 rfl rfl 1 (by decide) b_801 rfl dX12_change_41 ?_
    refine lv_bipush (v := 105) hx hb dX12_change_44 (by decide) ?_
    refine lv_iconst (v := 2) hx hb dX12_change_46 (by decide) ?_
    refine lv_aload_n hx hb dX12_change_47 rfl (lv_at hl 1 rfl) ?_
    refine g_get (C := RX12) (T := TX12) (N := 29) (ci := 12) (v := .ref a1) FC hKn hP i_X12 0 rfl rfl 1 (by decide) b_801 rfl dX12_change_48 ?_
    refine lv_bipush (v := 10) hx hb dX12_change_51 (by decide) ?_
    refine va_iald hx hb hKn.1 hP 1 0 rfl rfl (by unfold vp_in; decide) dX12_change_53 ?_
    refine lv_topi (fun z7 e_z7 => ?_)
    have t_z7 : 0 ≤ z7.toInt ∧ z7.toInt ≤ 60 := by rw [e_z7]; exact wk_10 a_f6.1
    have q_z7 : z7.toInt = (f6 10).toInt := by rw [e_z7]; rfl
    refine lv_imul hx hb dX12_change_54 ?_
    refine lv_topi (fun z8 e_z8 => ?_)
    have t_z8 : z8.toInt = 2 * z7.toInt := by rw [e_z8, fb_mulI (by rw [show (2 : Int32).toInt = 2 by decide]; omega) (by rw [show (2 : Int32).toInt = 2 by decide]; omega), show (2 : Int32).toInt = 2 by decide]
    refine lv_iadd hx hb dX12_change_55 ?_
    refine lv_topi (fun z9 e_z9 => ?_)
    have t_z9 : z9.toInt = ((105 : Int32)).toInt + z8.toInt := by rw [e_z9]; exact fb_addI (by omega) (by omega)
    refine lv_iconst (v := 1) hx hb dX12_change_56 (by decide) ?_
    refine lv_iadd hx hb dX12_change_57 ?_
    have kc1 : (1 : Int32).toInt = 1 := by decide
    refine lv_topi (fun z10 e_z10 => ?_)
    have t_z10 : z10.toInt = z9.toInt + ((1 : Int32)).toInt := by rw [e_z10]; exact fb_addI (by omega) (by omega)
    refine lv_iload_n hx hb dX12_change_58 rfl (lv_at hl 0 rfl) ?_
    refine va_iast hx hb hKn.1 hP hD hS 1 0 rfl rfl (vp_in_iff.mpr ⟨by omega, by omega⟩) dX12_change_59 (fun H locs hP hD hS => ?_)
    have hP : va_P g.1 vwCl [(h0, .inr (12, [.int mthrown, .ref a1, .ref a2, .ref a3, .ref a4, .int mtaped, .ref a6, .int msize, .int mat, .int mfrom, .int mtoken, .int mvalue, .int mfaultKind, .int mfaultPlace, .ref a14, .ref a15, .int mgoal, .int mgoalDays, .int mgoalHearer, .ref a19, .ref a20, .int mleastOrder, .int mwordsMany, .ref a23, .ref a24, .ref a25, .ref a26, .ref a27, .ref a28])), (a1, .inl (g.2 0, 225, .inl (upd f6 (z10.toNatClampNeg) z3)))] H := hP
    have hD : va_D A [(h0, .inr (12, [.int mthrown, .ref a1, .ref a2, .ref a3, .ref a4, .int mtaped, .ref a6, .int msize, .int mat, .int mfrom, .int mtoken, .int mvalue, .int mfaultKind, .int mfaultPlace, .ref a14, .ref a15, .int mgoal, .int mgoalDays, .int mgoalHearer, .ref a19, .ref a20, .int mleastOrder, .int mwordsMany, .ref a23, .ref a24, .ref a25, .ref a26, .ref a27, .ref a28])), (a1, .inl (g.2 0, 225, .inl (upd f6 (z10.toNatClampNeg) z3)))] := hD
    have a_f11 : wod (upd f6 (z10.toNatClampNeg) z3) := ⟨wx_x a_f6.1 (by omega), wx_w a_f6.2 (by omega)⟩
    generalize E_f11 : (upd f6 (z10.toNatClampNeg) z3 : Nat → Int32) = f11 at hP hD a_f11
    have g_f11_10 : (f11 10).toInt = (f6 10).toInt := by rw [← E_f11, uo (by have := cln (x := z10) (by omega); omega)]
    refine lv_aload_n hx hb dX12_change_60 rfl (lv_at hl 1 rfl) ?_
    refine g_get (C := RX12) (T := TX12) (N := 29) (ci := 12) (v := .ref a1) FC hKn hP i_X12 0 rfl rfl 1 (by decide) b_801 rfl dX12_change_61 ?_
    refine lv_bipush (v := 10) hx hb dX12_change_64 (by decide) ?_
    refine lv_dup2_11 hx hb dX12_change_66 rfl rfl ?_
    refine va_iald hx hb hKn.1 hP 1 0 rfl rfl (by unfold vp_in; decide) dX12_change_67 ?_
    refine lv_topi (fun z12 e_z12 => ?_)
    have t_z12 : 0 ≤ z12.toInt ∧ z12.toInt ≤ 60 := by rw [e_z12]; exact wk_10 a_f11.1
    have q_z12 : z12.toInt = (f11 10).toInt := by rw [e_z12]; rfl
    refine lv_iconst (v := 1) hx hb dX12_change_68 (by decide) ?_
    refine lv_iadd hx hb dX12_change_69 ?_
    refine lv_topi (fun z13 e_z13 => ?_)
    have t_z13 : z13.toInt = z12.toInt + ((1 : Int32)).toInt := by rw [e_z13]; exact fb_addI (by omega) (by omega)
    refine va_iast hx hb hKn.1 hP hD hS 1 0 rfl rfl (by unfold vp_in; decide) dX12_change_70 (fun H locs hP hD hS => ?_)
    have hP : va_P g.1 vwCl [(h0, .inr (12, [.int mthrown, .ref a1, .ref a2, .ref a3, .ref a4, .int mtaped, .ref a6, .int msize, .int mat, .int mfrom, .int mtoken, .int mvalue, .int mfaultKind, .int mfaultPlace, .ref a14, .ref a15, .int mgoal, .int mgoalDays, .int mgoalHearer, .ref a19, .ref a20, .int mleastOrder, .int mwordsMany, .ref a23, .ref a24, .ref a25, .ref a26, .ref a27, .ref a28])), (a1, .inl (g.2 0, 225, .inl (upd f11 ((10 : Int32).toNatClampNeg) z13)))] H := hP
    have hD : va_D A [(h0, .inr (12, [.int mthrown, .ref a1, .ref a2, .ref a3, .ref a4, .int mtaped, .ref a6, .int msize, .int mat, .int mfrom, .int mtoken, .int mvalue, .int mfaultKind, .int mfaultPlace, .ref a14, .ref a15, .int mgoal, .int mgoalDays, .int mgoalHearer, .ref a19, .ref a20, .int mleastOrder, .int mwordsMany, .ref a23, .ref a24, .ref a25, .ref a26, .ref a27, .ref a28])), (a1, .inl (g.2 0, 225, .inl (upd f11 ((10 : Int32).toNatClampNeg) z13)))] := hD
    have a_f14 : wod (upd f11 ((10 : Int32).toNatClampNeg) z13) := (wx_n a_f11 (by omega) (fun k h1 h2 => by by_cases q : k = (mworld 10).toInt.toNat; (subst q; rw [← E_f11, ← E_f6, uo (j := 105 + 2 * (mworld 10).toInt.toNat) (by have := cln (x := z10) (by omega); omega), show 105 + 2 * (mworld 10).toInt.toNat = (z5).toNatClampNeg from (ixe (by omega)).symm, pk_us, show 106 + 2 * (mworld 10).toInt.toNat = (z10).toNatClampNeg from (ixe (by omega)).symm, pk_us]; unfold wch; omega); (rw [← E_f11, ← E_f6, uo (by have := cln (x := z10) (by omega); omega), uo (by have := cln (x := z5) (by omega); omega), uo (by have := cln (x := z10) (by omega); omega), uo (by have := cln (x := z5) (by omega); omega)]; exact wk_ch i_mworld.1 (by omega))))
    generalize E_f14 : (upd f11 ((10 : Int32).toNatClampNeg) z13 : Nat → Int32) = f14 at hP hD a_f14
    have g_f14_10 : (f14 10).toInt = z13.toInt := by rw [← E_f14]; exact congrArg Int32.toInt (pk_us (k := 10))
    refine lv_aload_n hx hb dX12_change_71 rfl (lv_at hl 1 rfl) ?_
    refine g_get (C := RX12) (T := TX12) (N := 29) (ci := 12) (v := .ref a1) FC hKn hP i_X12 0 rfl rfl 1 (by decide) b_801 rfl dX12_change_72 ?_
    refine lv_iload_n hx hb dX12_change_75 rfl (lv_at hl 2 rfl) ?_
    refine lv_iload_n hx hb dX12_change_76 rfl (lv_at hl 3 rfl) ?_
    refine va_iast hx hb hKn.1 hP hD hS 1 0 rfl rfl (vp_in_iff.mpr ⟨by omega, by omega⟩) dX12_change_77 (fun H locs hP hD hS => ?_)
    have hP : va_P g.1 vwCl [(h0, .inr (12, [.int mthrown, .ref a1, .ref a2, .ref a3, .ref a4, .int mtaped, .ref a6, .int msize, .int mat, .int mfrom, .int mtoken, .int mvalue, .int mfaultKind, .int mfaultPlace, .ref a14, .ref a15, .int mgoal, .int mgoalDays, .int mgoalHearer, .ref a19, .ref a20, .int mleastOrder, .int mwordsMany, .ref a23, .ref a24, .ref a25, .ref a26, .ref a27, .ref a28])), (a1, .inl (g.2 0, 225, .inl (upd f14 (p1.toNatClampNeg) p2)))] H := hP
    have hD : va_D A [(h0, .inr (12, [.int mthrown, .ref a1, .ref a2, .ref a3, .ref a4, .int mtaped, .ref a6, .int msize, .int mat, .int mfrom, .int mtoken, .int mvalue, .int mfaultKind, .int mfaultPlace, .ref a14, .ref a15, .int mgoal, .int mgoalDays, .int mgoalHearer, .ref a19, .ref a20, .int mleastOrder, .int mwordsMany, .ref a23, .ref a24, .ref a25, .ref a26, .ref a27, .ref a28])), (a1, .inl (g.2 0, 225, .inl (upd f14 (p1.toNatClampNeg) p2)))] := hD
    have a_f15 : wod (upd f14 (p1.toNatClampNeg) p2) := (wx_c a_f14 (by omega))
    generalize (upd f14 (p1.toNatClampNeg) p2 : Nat → Int32) = f15 at hP hD a_f15
    refine lv_iload_n hx hb dX12_change_78 rfl (lv_at hl 0 rfl) ?_
    exact rt_i FX ((fun k => match k with | 0 => z3 | _ => 0), (fun k => match k with | 0 => f15 | _ => fun _ => 0), (fun _ => fun _ => 0)) rfl a_f15 (hP.sub [0, 1] rfl) (hD.sub [0, 1] (by decide) rfl) hS (Nat.le_of_ble_eq_true rfl) (Nat.le_of_ble_eq_true rfl) dX12_change_79
  · have c2 := k_eq (a := z1.toInt) (b := 60) rfl (by decide) c2
    refine lv_bipush (v := -5) hx hb dX12_change_12 (by decide) ?_
    exact rt_i FX ((fun k => match k with | 0 => (-5 : Int32) | _ => 0), (fun k => match k with | 0 => mworld | _ => fun _ => 0), (fun _ => fun _ => 0)) rfl i_mworld (hP.sub [0, 1] rfl) (hD.sub [0, 1] (by decide) rfl) hS (Nat.le_of_ble_eq_true rfl) (Nat.le_of_ble_eq_true rfl) dX12_change_14
set_option maxRecDepth 100000 in
set_option maxHeartbeats 4000000 in
theorem k_X12_worsen (l : Launch) (g : GG) (h0 : Nat) (a1 : Nat) (a2 : Nat) (a3 : Nat) (a4 : Nat) (a6 : Nat) (a14 : Nat) (a15 : Nat) (a19 : Nat) (a20 : Nat) (a23 : Nat) (a24 : Nat) (a25 : Nat) (a26 : Nat) (a27 : Nat) (a28 : Nat) (mthrown : Int32) (mtaped : Int32) (msize : Int32) (mat : Int32) (mfrom : Int32) (mtoken : Int32) (mvalue : Int32) (mfaultKind : Int32) (mfaultPlace : Int32) (mgoal : Int32) (mgoalDays : Int32) (mgoalHearer : Int32) (mleastOrder : Int32) (mwordsMany : Int32) (mworld : Nat → Int32) (p1 : Int32) (p2 : Int32) (i_mtaped : 0 ≤ mtaped.toInt ∧ mtaped.toInt ≤ 900) (i_msize : 0 ≤ msize.toInt ∧ msize.toInt ≤ 900) (i_mat : 0 ≤ mat.toInt ∧ mat.toInt ≤ 900) (i_mfrom : 0 ≤ mfrom.toInt ∧ mfrom.toInt ≤ 900) (i_mtoken : 0 ≤ mtoken.toInt ∧ mtoken.toInt ≤ 4) (i_mvalue : 0 ≤ mvalue.toInt ∧ mvalue.toInt ≤ 99999) (i_mgoalHearer : 0 ≤ mgoalHearer.toInt ∧ mgoalHearer.toInt ≤ 3) (i_mwordsMany : 0 ≤ mwordsMany.toInt ∧ mwordsMany.toInt ≤ 10) (i_mworld : wod mworld) : Ct l g yX12_worsen cX12_worsen 3 (some .int) { frames := 2, cells := 0, slots := 0, locals := 46 } [.ref h0, .int p1, .int p2] [(h0, .inr (12, [.int mthrown, .ref a1, .ref a2, .ref a3, .ref a4, .int mtaped, .ref a6, .int msize, .int mat, .int mfrom, .int mtoken, .int mvalue, .int mfaultKind, .int mfaultPlace, .ref a14, .ref a15, .int mgoal, .int mgoalDays, .int mgoalHearer, .ref a19, .ref a20, .int mleastOrder, .int mwordsMany, .ref a23, .ref a24, .ref a25, .ref a26, .ref a27, .ref a28])), (a1, .inl (g.2 0, 225, .inl mworld))] (S := (Nat → Int32) × (Nat → Nat → Int32) × (Nat → Nat → Int64)) (fun u => some (.int (u.1 0))) (fun u => (wod (u.2.1 0))) (fun u => [(h0, .inr (12, [.int mthrown, .ref a1, .ref a2, .ref a3, .ref a4, .int mtaped, .ref a6, .int msize, .int mat, .int mfrom, .int mtoken, .int mvalue, .int mfaultKind, .int mfaultPlace, .ref a14, .ref a15, .int mgoal, .int mgoalDays, .int mgoalHearer, .ref a19, .ref a20, .int mleastOrder, .int mwordsMany, .ref a23, .ref a24, .ref a25, .ref a26, .ref a27, .ref a28])), (a1, .inl (g.2 0, 225, .inl (u.2.1 0)))]) := by
  refine Ct.of (by decide) (Nat.le_of_ble_eq_true rfl) ?_
  intro p e s m below meth c A ls FX hP hD hS hl
  obtain ⟨FC, hr, hlk, hKn, hA, hnm, hZ⟩ := id FX
  have FC : CallFix p m c cX12_worsen 3 s _ BIG RX12 := FC
  obtain ⟨hx, hb, hml, hown, hB⟩ := id FC
  have hl : lv_has ls 3 [(0, .ref h0), (1, .int p1), (2, .int p2)] := hl
  refine lv_aload_n hx hb dX12_worsen_0 rfl (lv_at hl 0 rfl) ?_
  refine lv_iload_n hx hb dX12_worsen_1 rfl (lv_at hl 1 rfl) ?_
  refine call_V (As := [.int p1]) (rest := []) (wr := []) FC hKn hZ (k_X12_isState l g h0 a1 a2 a3 a4 a6 a14 a15 a19 a20 a23 a24 a25 a26 a27 a28 mthrown mtaped msize mat mfrom mtoken mvalue mfaultKind mfaultPlace mgoal mgoalDays mgoalHearer mleastOrder mwordsMany mworld p1 (by omega) (by omega) (by omega) (by omega) (by omega) (by omega) (by omega) (by omega) i_mworld) m_yX12_isState b_880 (ci := 12) rfl rfl rfl hP hD hS hA [0, 1] [] rfl (by decide) rfl (by decide) (by decide) rfl hl.1 rfl (Nat.le_of_ble_eq_true rfl) dX12_worsen_2 ⟨(Nat.le_of_ble_eq_true rfl), (Nat.le_of_ble_eq_true rfl)⟩ ⟨(Nat.le_of_ble_eq_true rfl), (Nat.le_of_ble_eq_true rfl)⟩ (fun u1 H locs q2 hP hD hS => ?_)
  obtain ⟨q2_0, q2_1⟩ := q2
  have hP : va_P g.1 vwCl [(h0, .inr (12, [.int mthrown, .ref a1, .ref a2, .ref a3, .ref a4, .int mtaped, .ref a6, .int msize, .int mat, .int mfrom, .int mtoken, .int mvalue, .int mfaultKind, .int mfaultPlace, .ref a14, .ref a15, .int mgoal, .int mgoalDays, .int mgoalHearer, .ref a19, .ref a20, .int mleastOrder, .int mwordsMany, .ref a23, .ref a24, .ref a25, .ref a26, .ref a27, .ref a28])), (a1, .inl (g.2 0, 225, .inl mworld))] H := hP
  have hD : va_D A [(h0, .inr (12, [.int mthrown, .ref a1, .ref a2, .ref a3, .ref a4, .int mtaped, .ref a6, .int msize, .int mat, .int mfrom, .int mtoken, .int mvalue, .int mfaultKind, .int mfaultPlace, .ref a14, .ref a15, .int mgoal, .int mgoalDays, .int mgoalHearer, .ref a19, .ref a20, .int mleastOrder, .int mwordsMany, .ref a23, .ref a24, .ref a25, .ref a26, .ref a27, .ref a28])), (a1, .inl (g.2 0, 225, .inl mworld))] := hD
  refine W.eq (g2 := F0 m 5 ls [.int (u1.1 0)]) rfl ?_
  rcases (show (u1.1 0).toInt = 0 ∨ (u1.1 0).toInt = 1 by omega) with c3 | c3
  · skip
    refine lv_if_eq (tgt := 32) hx hb dX12_worsen_5 (by decide) (fun c4 => ?_) (fun c4 => ?_)
    · have c4 := k_eq (a := (u1.1 0).toInt) (b := 0) rfl (by decide) c4
      refine lv_bipush (v := -2) hx hb dX12_worsen_32 (by decide) ?_
      exact rt_i FX ((fun k => match k with | 0 => (-2 : Int32) | _ => 0), (fun k => match k with | 0 => mworld | _ => fun _ => 0), (fun _ => fun _ => 0)) rfl i_mworld (hP.sub [0, 1] rfl) (hD.sub [0, 1] (by decide) rfl) hS (Nat.le_of_ble_eq_true rfl) (Nat.le_of_ble_eq_true rfl) dX12_worsen_34
    · have c4 := k_ne (a := (u1.1 0).toInt) (b := 0) rfl (by decide) c4
      exfalso; omega
  · have c3_r := q2_1 c3
    refine lv_if_eq (tgt := 32) hx hb dX12_worsen_5 (by decide) (fun c5 => ?_) (fun c5 => ?_)
    · have c5 := k_eq (a := (u1.1 0).toInt) (b := 0) rfl (by decide) c5
      exfalso; omega
    · have c5 := k_ne (a := (u1.1 0).toInt) (b := 0) rfl (by decide) c5
      refine lv_iload_n hx hb dX12_worsen_8 rfl (lv_at hl 2 rfl) ?_
      refine lv_i2l (v := p2.toInt64) hx hb dX12_worsen_9 rfl ?_
      refine lv_topl (fun z6 e_z6 => ?_)
      have t_z6 : z6.toInt = p2.toInt := by rw [e_z6]; exact Int32.toInt_toInt64 _
      refine lv_lconst (v := 0) hx hb dX12_worsen_10 (by decide) ?_
      refine lv_ldc2 hx hb hown (hB _ b_1097) dX12_worsen_11 ?_
      have kcl0 : (0 : Int64).toInt = 0 := by decide
      have kcl99 : (99 : Int64).toInt = 99 := by decide
      refine call_S (As := [.long z6, .long 0, .long 99]) (rest := []) (wr := [(h0, .inr (12, [.int mthrown, .ref a1, .ref a2, .ref a3, .ref a4, .int mtaped, .ref a6, .int msize, .int mat, .int mfrom, .int mtoken, .int mvalue, .int mfaultKind, .int mfaultPlace, .ref a14, .ref a15, .int mgoal, .int mgoalDays, .int mgoalHearer, .ref a19, .ref a20, .int mleastOrder, .int mwordsMany, .ref a23, .ref a24, .ref a25, .ref a26, .ref a27, .ref a28])), (a1, .inl (g.2 0, 225, .inl mworld))]) FC hKn hZ (k_X12_in l g z6 ((0 : Int64)) ((99 : Int64))) m_yX12_in b_802 hP hD hS hA [] [0, 1] rfl (by decide) rfl (by decide) (by decide) rfl hl.1 rfl (Nat.le_of_ble_eq_true rfl) dX12_worsen_14 ⟨(Nat.le_of_ble_eq_true rfl), (Nat.le_of_ble_eq_true rfl)⟩ ⟨(Nat.le_of_ble_eq_true rfl), (Nat.le_of_ble_eq_true rfl)⟩ (fun u7 H locs q8 hP hD hS => ?_)
      obtain ⟨q8_0, q8_1, q8_2⟩ := q8
      have hP : va_P g.1 vwCl [(h0, .inr (12, [.int mthrown, .ref a1, .ref a2, .ref a3, .ref a4, .int mtaped, .ref a6, .int msize, .int mat, .int mfrom, .int mtoken, .int mvalue, .int mfaultKind, .int mfaultPlace, .ref a14, .ref a15, .int mgoal, .int mgoalDays, .int mgoalHearer, .ref a19, .ref a20, .int mleastOrder, .int mwordsMany, .ref a23, .ref a24, .ref a25, .ref a26, .ref a27, .ref a28])), (a1, .inl (g.2 0, 225, .inl mworld))] H := hP
      have hD : va_D A [(h0, .inr (12, [.int mthrown, .ref a1, .ref a2, .ref a3, .ref a4, .int mtaped, .ref a6, .int msize, .int mat, .int mfrom, .int mtoken, .int mvalue, .int mfaultKind, .int mfaultPlace, .ref a14, .ref a15, .int mgoal, .int mgoalDays, .int mgoalHearer, .ref a19, .ref a20, .int mleastOrder, .int mwordsMany, .ref a23, .ref a24, .ref a25, .ref a26, .ref a27, .ref a28])), (a1, .inl (g.2 0, 225, .inl mworld))] := hD
      refine W.eq (g2 := F0 m 17 ls [.int (u7.1 0)]) rfl ?_
      rcases (show (u7.1 0).toInt = 0 ∨ (u7.1 0).toInt = 1 by omega) with c9 | c9
      · skip
        refine lv_if_eq (tgt := 32) hx hb dX12_worsen_17 (by decide) (fun c10 => ?_) (fun c10 => ?_)
        · have c10 := k_eq (a := (u7.1 0).toInt) (b := 0) rfl (by decide) c10
          refine lv_bipush (v := -2) hx hb dX12_worsen_32 (by decide) ?_
          exact rt_i FX ((fun k => match k with | 0 => (-2 : Int32) | _ => 0), (fun k => match k with | 0 => mworld | _ => fun _ => 0), (fun _ => fun _ => 0)) rfl i_mworld (hP.sub [0, 1] rfl) (hD.sub [0, 1] (by decide) rfl) hS (Nat.le_of_ble_eq_true rfl) (Nat.le_of_ble_eq_true rfl) dX12_worsen_34
        · have c10 := k_ne (a := (u7.1 0).toInt) (b := 0) rfl (by decide) c10
          exfalso; omega
      · have c9_r := q8_2 c9
        refine lv_if_eq (tgt := 32) hx hb dX12_worsen_17 (by decide) (fun c11 => ?_) (fun c11 => ?_)
        · have c11 := k_eq (a := (u7.1 0).toInt) (b := 0) rfl (by decide) c11
          exfalso; omega
        · have c11 := k_ne (a := (u7.1 0).toInt) (b := 0) rfl (by decide) c11
          refine lv_aload_n hx hb dX12_worsen_20 rfl (lv_at hl 0 rfl) ?_
          refine lv_bipush (v := 11) hx hb dX12_worsen_21 (by decide) ?_
          refine lv_iload_n hx hb dX12_worsen_23 rfl (lv_at hl 1 rfl) ?_
          refine lv_iadd hx hb dX12_worsen_24 ?_
          have kc11 : (11 : Int32).toInt = 11 := by decide
          refine lv_topi (fun z12 e_z12 => ?_)
          have t_z12 : z12.toInt = ((11 : Int32)).toInt + p1.toInt := by rw [e_z12]; exact fb_addI (by omega) (by omega)
          refine lv_iload_n hx hb dX12_worsen_25 rfl (lv_at hl 2 rfl) ?_
          refine call_V (As := [.int z12, .int p2]) (rest := []) (wr := []) FC hKn hZ (k_X12_change l g h0 a1 a2 a3 a4 a6 a14 a15 a19 a20 a23 a24 a25 a26 a27 a28 mthrown mtaped msize mat mfrom mtoken mvalue mfaultKind mfaultPlace mgoal mgoalDays mgoalHearer mleastOrder mwordsMany mworld z12 p2 (by omega) (by omega) (by omega) (by omega) (by omega) (by omega) (by omega) (by omega) i_mworld (by omega)) m_yX12_change b_1098 (ci := 12) rfl rfl rfl hP hD hS hA [0, 1] [] rfl (by decide) rfl (by decide) (by decide) rfl hl.1 rfl (Nat.le_of_ble_eq_true rfl) dX12_worsen_26 ⟨(Nat.le_of_ble_eq_true rfl), (Nat.le_of_ble_eq_true rfl)⟩ ⟨(Nat.le_of_ble_eq_true rfl), (Nat.le_of_ble_eq_true rfl)⟩ (fun u13 H locs q14 hP hD hS => ?_)
          have q14_0 : wod (u13.2.1 0) := q14
          have hP : va_P g.1 vwCl [(h0, .inr (12, [.int mthrown, .ref a1, .ref a2, .ref a3, .ref a4, .int mtaped, .ref a6, .int msize, .int mat, .int mfrom, .int mtoken, .int mvalue, .int mfaultKind, .int mfaultPlace, .ref a14, .ref a15, .int mgoal, .int mgoalDays, .int mgoalHearer, .ref a19, .ref a20, .int mleastOrder, .int mwordsMany, .ref a23, .ref a24, .ref a25, .ref a26, .ref a27, .ref a28])), (a1, .inl (g.2 0, 225, .inl (u13.2.1 0)))] H := hP
          have hD : va_D A [(h0, .inr (12, [.int mthrown, .ref a1, .ref a2, .ref a3, .ref a4, .int mtaped, .ref a6, .int msize, .int mat, .int mfrom, .int mtoken, .int mvalue, .int mfaultKind, .int mfaultPlace, .ref a14, .ref a15, .int mgoal, .int mgoalDays, .int mgoalHearer, .ref a19, .ref a20, .int mleastOrder, .int mwordsMany, .ref a23, .ref a24, .ref a25, .ref a26, .ref a27, .ref a28])), (a1, .inl (g.2 0, 225, .inl (u13.2.1 0)))] := hD
          refine W.eq (g2 := F0 m 29 ls [.int (u13.1 0)]) rfl ?_
          refine lv_goto (tgt := 34) hx hb dX12_worsen_29 (by decide) ?_
          exact rt_i FX ((fun k => match k with | 0 => u13.1 0 | _ => 0), (fun k => match k with | 0 => u13.2.1 0 | _ => fun _ => 0), (fun _ => fun _ => 0)) rfl q14_0 (hP.sub [0, 1] rfl) (hD.sub [0, 1] (by decide) rfl) hS (Nat.le_of_ble_eq_true rfl) (Nat.le_of_ble_eq_true rfl) dX12_worsen_34
set_option maxRecDepth 100000 in
set_option maxHeartbeats 4000000 in
theorem k_X12_really (l : Launch) (g : GG) (h0 : Nat) (a1 : Nat) (a2 : Nat) (a3 : Nat) (a4 : Nat) (a6 : Nat) (a14 : Nat) (a15 : Nat) (a19 : Nat) (a20 : Nat) (a23 : Nat) (a24 : Nat) (a25 : Nat) (a26 : Nat) (a27 : Nat) (a28 : Nat) (mthrown : Int32) (mtaped : Int32) (msize : Int32) (mat : Int32) (mfrom : Int32) (mtoken : Int32) (mvalue : Int32) (mfaultKind : Int32) (mfaultPlace : Int32) (mgoal : Int32) (mgoalDays : Int32) (mgoalHearer : Int32) (mleastOrder : Int32) (mwordsMany : Int32) (mworld : Nat → Int32) (p1 : Int32) (i_mtaped : 0 ≤ mtaped.toInt ∧ mtaped.toInt ≤ 900) (i_msize : 0 ≤ msize.toInt ∧ msize.toInt ≤ 900) (i_mat : 0 ≤ mat.toInt ∧ mat.toInt ≤ 900) (i_mfrom : 0 ≤ mfrom.toInt ∧ mfrom.toInt ≤ 900) (i_mtoken : 0 ≤ mtoken.toInt ∧ mtoken.toInt ≤ 4) (i_mvalue : 0 ≤ mvalue.toInt ∧ mvalue.toInt ≤ 99999) (i_mgoalHearer : 0 ≤ mgoalHearer.toInt ∧ mgoalHearer.toInt ≤ 3) (i_mwordsMany : 0 ≤ mwordsMany.toInt ∧ mwordsMany.toInt ≤ 10) (i_mworld : wod mworld) : Ct l g yX12_really cX12_really 2 (some .int) { frames := 2, cells := 0, slots := 0, locals := 46 } [.ref h0, .int p1] [(h0, .inr (12, [.int mthrown, .ref a1, .ref a2, .ref a3, .ref a4, .int mtaped, .ref a6, .int msize, .int mat, .int mfrom, .int mtoken, .int mvalue, .int mfaultKind, .int mfaultPlace, .ref a14, .ref a15, .int mgoal, .int mgoalDays, .int mgoalHearer, .ref a19, .ref a20, .int mleastOrder, .int mwordsMany, .ref a23, .ref a24, .ref a25, .ref a26, .ref a27, .ref a28])), (a1, .inl (g.2 0, 225, .inl mworld))] (S := (Nat → Int32) × (Nat → Nat → Int32) × (Nat → Nat → Int64)) (fun u => some (.int (u.1 0))) (fun u => (wod (u.2.1 0))) (fun u => [(h0, .inr (12, [.int mthrown, .ref a1, .ref a2, .ref a3, .ref a4, .int mtaped, .ref a6, .int msize, .int mat, .int mfrom, .int mtoken, .int mvalue, .int mfaultKind, .int mfaultPlace, .ref a14, .ref a15, .int mgoal, .int mgoalDays, .int mgoalHearer, .ref a19, .ref a20, .int mleastOrder, .int mwordsMany, .ref a23, .ref a24, .ref a25, .ref a26, .ref a27, .ref a28])), (a1, .inl (g.2 0, 225, .inl (u.2.1 0)))]) := by
  refine Ct.of (by decide) (Nat.le_of_ble_eq_true rfl) ?_
  intro p e s m below meth c A ls FX hP hD hS hl
  obtain ⟨FC, hr, hlk, hKn, hA, hnm, hZ⟩ := id FX
  have FC : CallFix p m c cX12_really 2 s _ BIG RX12 := FC
  obtain ⟨hx, hb, hml, hown, hB⟩ := id FC
  have hl : lv_has ls 2 [(0, .ref h0), (1, .int p1)] := hl
  refine lv_aload_n hx hb dX12_really_0 rfl (lv_at hl 0 rfl) ?_
  refine lv_iload_n hx hb dX12_really_1 rfl (lv_at hl 1 rfl) ?_
  refine call_V (As := [.int p1]) (rest := []) (wr := []) FC hKn hZ (k_X12_isState l g h0 a1 a2 a3 a4 a6 a14 a15 a19 a20 a23 a24 a25 a26 a27 a28 mthrown mtaped msize mat mfrom mtoken mvalue mfaultKind mfaultPlace mgoal mgoalDays mgoalHearer mleastOrder mwordsMany mworld p1 (by omega) (by omega) (by omega) (by omega) (by omega) (by omega) (by omega) (by omega) i_mworld) m_yX12_isState b_880 (ci := 12) rfl rfl rfl hP hD hS hA [0, 1] [] rfl (by decide) rfl (by decide) (by decide) rfl hl.1 rfl (Nat.le_of_ble_eq_true rfl) dX12_really_2 ⟨(Nat.le_of_ble_eq_true rfl), (Nat.le_of_ble_eq_true rfl)⟩ ⟨(Nat.le_of_ble_eq_true rfl), (Nat.le_of_ble_eq_true rfl)⟩ (fun u1 H locs q2 hP hD hS => ?_)
  obtain ⟨q2_0, q2_1⟩ := q2
  have hP : va_P g.1 vwCl [(h0, .inr (12, [.int mthrown, .ref a1, .ref a2, .ref a3, .ref a4, .int mtaped, .ref a6, .int msize, .int mat, .int mfrom, .int mtoken, .int mvalue, .int mfaultKind, .int mfaultPlace, .ref a14, .ref a15, .int mgoal, .int mgoalDays, .int mgoalHearer, .ref a19, .ref a20, .int mleastOrder, .int mwordsMany, .ref a23, .ref a24, .ref a25, .ref a26, .ref a27, .ref a28])), (a1, .inl (g.2 0, 225, .inl mworld))] H := hP
  have hD : va_D A [(h0, .inr (12, [.int mthrown, .ref a1, .ref a2, .ref a3, .ref a4, .int mtaped, .ref a6, .int msize, .int mat, .int mfrom, .int mtoken, .int mvalue, .int mfaultKind, .int mfaultPlace, .ref a14, .ref a15, .int mgoal, .int mgoalDays, .int mgoalHearer, .ref a19, .ref a20, .int mleastOrder, .int mwordsMany, .ref a23, .ref a24, .ref a25, .ref a26, .ref a27, .ref a28])), (a1, .inl (g.2 0, 225, .inl mworld))] := hD
  refine W.eq (g2 := F0 m 5 ls [.int (u1.1 0)]) rfl ?_
  rcases (show (u1.1 0).toInt = 0 ∨ (u1.1 0).toInt = 1 by omega) with c3 | c3
  · skip
    refine lv_if_eq (tgt := 17) hx hb dX12_really_5 (by decide) (fun c4 => ?_) (fun c4 => ?_)
    · have c4 := k_eq (a := (u1.1 0).toInt) (b := 0) rfl (by decide) c4
      refine lv_bipush (v := -2) hx hb dX12_really_17 (by decide) ?_
      exact rt_i FX ((fun k => match k with | 0 => (-2 : Int32) | _ => 0), (fun k => match k with | 0 => mworld | _ => fun _ => 0), (fun _ => fun _ => 0)) rfl i_mworld (hP.sub [0, 1] rfl) (hD.sub [0, 1] (by decide) rfl) hS (Nat.le_of_ble_eq_true rfl) (Nat.le_of_ble_eq_true rfl) dX12_really_19
    · have c4 := k_ne (a := (u1.1 0).toInt) (b := 0) rfl (by decide) c4
      exfalso; omega
  · have c3_r := q2_1 c3
    refine lv_if_eq (tgt := 17) hx hb dX12_really_5 (by decide) (fun c5 => ?_) (fun c5 => ?_)
    · have c5 := k_eq (a := (u1.1 0).toInt) (b := 0) rfl (by decide) c5
      exfalso; omega
    · have c5 := k_ne (a := (u1.1 0).toInt) (b := 0) rfl (by decide) c5
      refine lv_aload_n hx hb dX12_really_8 rfl (lv_at hl 0 rfl) ?_
      refine lv_iconst (v := 1) hx hb dX12_really_9 (by decide) ?_
      refine lv_iload_n hx hb dX12_really_10 rfl (lv_at hl 1 rfl) ?_
      have kc1 : (1 : Int32).toInt = 1 := by decide
      refine call_V (As := [.int 1, .int p1]) (rest := []) (wr := []) FC hKn hZ (k_X12_change l g h0 a1 a2 a3 a4 a6 a14 a15 a19 a20 a23 a24 a25 a26 a27 a28 mthrown mtaped msize mat mfrom mtoken mvalue mfaultKind mfaultPlace mgoal mgoalDays mgoalHearer mleastOrder mwordsMany mworld ((1 : Int32)) p1 (by omega) (by omega) (by omega) (by omega) (by omega) (by omega) (by omega) (by omega) i_mworld (by omega)) m_yX12_change b_1098 (ci := 12) rfl rfl rfl hP hD hS hA [0, 1] [] rfl (by decide) rfl (by decide) (by decide) rfl hl.1 rfl (Nat.le_of_ble_eq_true rfl) dX12_really_11 ⟨(Nat.le_of_ble_eq_true rfl), (Nat.le_of_ble_eq_true rfl)⟩ ⟨(Nat.le_of_ble_eq_true rfl), (Nat.le_of_ble_eq_true rfl)⟩ (fun u6 H locs q7 hP hD hS => ?_)
      have q7_0 : wod (u6.2.1 0) := q7
      have hP : va_P g.1 vwCl [(h0, .inr (12, [.int mthrown, .ref a1, .ref a2, .ref a3, .ref a4, .int mtaped, .ref a6, .int msize, .int mat, .int mfrom, .int mtoken, .int mvalue, .int mfaultKind, .int mfaultPlace, .ref a14, .ref a15, .int mgoal, .int mgoalDays, .int mgoalHearer, .ref a19, .ref a20, .int mleastOrder, .int mwordsMany, .ref a23, .ref a24, .ref a25, .ref a26, .ref a27, .ref a28])), (a1, .inl (g.2 0, 225, .inl (u6.2.1 0)))] H := hP
      have hD : va_D A [(h0, .inr (12, [.int mthrown, .ref a1, .ref a2, .ref a3, .ref a4, .int mtaped, .ref a6, .int msize, .int mat, .int mfrom, .int mtoken, .int mvalue, .int mfaultKind, .int mfaultPlace, .ref a14, .ref a15, .int mgoal, .int mgoalDays, .int mgoalHearer, .ref a19, .ref a20, .int mleastOrder, .int mwordsMany, .ref a23, .ref a24, .ref a25, .ref a26, .ref a27, .ref a28])), (a1, .inl (g.2 0, 225, .inl (u6.2.1 0)))] := hD
      refine W.eq (g2 := F0 m 14 ls [.int (u6.1 0)]) rfl ?_
      refine lv_goto (tgt := 19) hx hb dX12_really_14 (by decide) ?_
      exact rt_i FX ((fun k => match k with | 0 => u6.1 0 | _ => 0), (fun k => match k with | 0 => u6.2.1 0 | _ => fun _ => 0), (fun _ => fun _ => 0)) rfl q7_0 (hP.sub [0, 1] rfl) (hD.sub [0, 1] (by decide) rfl) hS (Nat.le_of_ble_eq_true rfl) (Nat.le_of_ble_eq_true rfl) dX12_really_19
set_option maxRecDepth 100000 in
set_option maxHeartbeats 4000000 in
theorem k_X12_doubt (l : Launch) (g : GG) (h0 : Nat) (a1 : Nat) (a2 : Nat) (a3 : Nat) (a4 : Nat) (a6 : Nat) (a14 : Nat) (a15 : Nat) (a19 : Nat) (a20 : Nat) (a23 : Nat) (a24 : Nat) (a25 : Nat) (a26 : Nat) (a27 : Nat) (a28 : Nat) (mthrown : Int32) (mtaped : Int32) (msize : Int32) (mat : Int32) (mfrom : Int32) (mtoken : Int32) (mvalue : Int32) (mfaultKind : Int32) (mfaultPlace : Int32) (mgoal : Int32) (mgoalDays : Int32) (mgoalHearer : Int32) (mleastOrder : Int32) (mwordsMany : Int32) (mworld : Nat → Int32) (p1 : Int32) (p2 : Int32) (p3 : Int32) (i_mtaped : 0 ≤ mtaped.toInt ∧ mtaped.toInt ≤ 900) (i_msize : 0 ≤ msize.toInt ∧ msize.toInt ≤ 900) (i_mat : 0 ≤ mat.toInt ∧ mat.toInt ≤ 900) (i_mfrom : 0 ≤ mfrom.toInt ∧ mfrom.toInt ≤ 900) (i_mtoken : 0 ≤ mtoken.toInt ∧ mtoken.toInt ≤ 4) (i_mvalue : 0 ≤ mvalue.toInt ∧ mvalue.toInt ≤ 99999) (i_mgoalHearer : 0 ≤ mgoalHearer.toInt ∧ mgoalHearer.toInt ≤ 3) (i_mwordsMany : 0 ≤ mwordsMany.toInt ∧ mwordsMany.toInt ≤ 10) (i_mworld : wod mworld) : Ct l g yX12_doubt cX12_doubt 4 (some .int) { frames := 2, cells := 0, slots := 0, locals := 46 } [.ref h0, .int p1, .int p2, .int p3] [(h0, .inr (12, [.int mthrown, .ref a1, .ref a2, .ref a3, .ref a4, .int mtaped, .ref a6, .int msize, .int mat, .int mfrom, .int mtoken, .int mvalue, .int mfaultKind, .int mfaultPlace, .ref a14, .ref a15, .int mgoal, .int mgoalDays, .int mgoalHearer, .ref a19, .ref a20, .int mleastOrder, .int mwordsMany, .ref a23, .ref a24, .ref a25, .ref a26, .ref a27, .ref a28])), (a1, .inl (g.2 0, 225, .inl mworld))] (S := (Nat → Int32) × (Nat → Nat → Int32) × (Nat → Nat → Int64)) (fun u => some (.int (u.1 0))) (fun u => (wod (u.2.1 0))) (fun u => [(h0, .inr (12, [.int mthrown, .ref a1, .ref a2, .ref a3, .ref a4, .int mtaped, .ref a6, .int msize, .int mat, .int mfrom, .int mtoken, .int mvalue, .int mfaultKind, .int mfaultPlace, .ref a14, .ref a15, .int mgoal, .int mgoalDays, .int mgoalHearer, .ref a19, .ref a20, .int mleastOrder, .int mwordsMany, .ref a23, .ref a24, .ref a25, .ref a26, .ref a27, .ref a28])), (a1, .inl (g.2 0, 225, .inl (u.2.1 0)))]) := by
  refine Ct.of (by decide) (Nat.le_of_ble_eq_true rfl) ?_
  intro p e s m below meth c A ls FX hP hD hS hl
  obtain ⟨FC, hr, hlk, hKn, hA, hnm, hZ⟩ := id FX
  have FC : CallFix p m c cX12_doubt 4 s _ BIG RX12 := FC
  obtain ⟨hx, hb, hml, hown, hB⟩ := id FC
  have hl : lv_has ls 4 [(0, .ref h0), (1, .int p1), (2, .int p2), (3, .int p3)] := hl
  refine lv_aload_n hx hb dX12_doubt_0 rfl (lv_at hl 0 rfl) ?_
  refine lv_iload_n hx hb dX12_doubt_1 rfl (lv_at hl 1 rfl) ?_
  refine call_V (As := [.int p1]) (rest := []) (wr := []) FC hKn hZ (k_X12_isHearer l g h0 a1 a2 a3 a4 a6 a14 a15 a19 a20 a23 a24 a25 a26 a27 a28 mthrown mtaped msize mat mfrom mtoken mvalue mfaultKind mfaultPlace mgoal mgoalDays mgoalHearer mleastOrder mwordsMany mworld p1 (by omega) (by omega) (by omega) (by omega) (by omega) (by omega) (by omega) (by omega) i_mworld) m_yX12_isHearer b_881 (ci := 12) rfl rfl rfl hP hD hS hA [0, 1] [] rfl (by decide) rfl (by decide) (by decide) rfl hl.1 rfl (Nat.le_of_ble_eq_true rfl) dX12_doubt_2 ⟨(Nat.le_of_ble_eq_true rfl), (Nat.le_of_ble_eq_true rfl)⟩ ⟨(Nat.le_of_ble_eq_true rfl), (Nat.le_of_ble_eq_true rfl)⟩ (fun u1 H locs q2 hP hD hS => ?_)
  obtain ⟨q2_0, q2_1⟩ := q2
  have hP : va_P g.1 vwCl [(h0, .inr (12, [.int mthrown, .ref a1, .ref a2, .ref a3, .ref a4, .int mtaped, .ref a6, .int msize, .int mat, .int mfrom, .int mtoken, .int mvalue, .int mfaultKind, .int mfaultPlace, .ref a14, .ref a15, .int mgoal, .int mgoalDays, .int mgoalHearer, .ref a19, .ref a20, .int mleastOrder, .int mwordsMany, .ref a23, .ref a24, .ref a25, .ref a26, .ref a27, .ref a28])), (a1, .inl (g.2 0, 225, .inl mworld))] H := hP
  have hD : va_D A [(h0, .inr (12, [.int mthrown, .ref a1, .ref a2, .ref a3, .ref a4, .int mtaped, .ref a6, .int msize, .int mat, .int mfrom, .int mtoken, .int mvalue, .int mfaultKind, .int mfaultPlace, .ref a14, .ref a15, .int mgoal, .int mgoalDays, .int mgoalHearer, .ref a19, .ref a20, .int mleastOrder, .int mwordsMany, .ref a23, .ref a24, .ref a25, .ref a26, .ref a27, .ref a28])), (a1, .inl (g.2 0, 225, .inl mworld))] := hD
  refine W.eq (g2 := F0 m 5 ls [.int (u1.1 0)]) rfl ?_
  rcases (show (u1.1 0).toInt = 0 ∨ (u1.1 0).toInt = 1 by omega) with c3 | c3
  · skip
    refine lv_if_eq (tgt := 45) hx hb dX12_doubt_5 (by decide) (fun c4 => ?_) (fun c4 => ?_)
    · have c4 := k_eq (a := (u1.1 0).toInt) (b := 0) rfl (by decide) c4
      refine lv_bipush (v := -2) hx hb dX12_doubt_45 (by decide) ?_
      exact rt_i FX ((fun k => match k with | 0 => (-2 : Int32) | _ => 0), (fun k => match k with | 0 => mworld | _ => fun _ => 0), (fun _ => fun _ => 0)) rfl i_mworld (hP.sub [0, 1] rfl) (hD.sub [0, 1] (by decide) rfl) hS (Nat.le_of_ble_eq_true rfl) (Nat.le_of_ble_eq_true rfl) dX12_doubt_47
    · have c4 := k_ne (a := (u1.1 0).toInt) (b := 0) rfl (by decide) c4
      exfalso; omega
  · have c3_r := q2_1 c3
    refine lv_if_eq (tgt := 45) hx hb dX12_doubt_5 (by decide) (fun c5 => ?_) (fun c5 => ?_)
    · have c5 := k_eq (a := (u1.1 0).toInt) (b := 0) rfl (by decide) c5
      exfalso; omega
    · have c5 := k_ne (a := (u1.1 0).toInt) (b := 0) rfl (by decide) c5
      refine lv_aload_n hx hb dX12_doubt_8 rfl (lv_at hl 0 rfl) ?_
      refine lv_iload_n hx hb dX12_doubt_9 rfl (lv_at hl 2 rfl) ?_
      refine call_V (As := [.int p2]) (rest := []) (wr := []) FC hKn hZ (k_X12_isState l g h0 a1 a2 a3 a4 a6 a14 a15 a19 a20 a23 a24 a25 a26 a27 a28 mthrown mtaped msize mat mfrom mtoken mvalue mfaultKind mfaultPlace mgoal mgoalDays mgoalHearer mleastOrder mwordsMany mworld p2 (by omega) (by omega) (by omega) (by omega) (by omega) (by omega) (by omega) (by omega) i_mworld) m_yX12_isState b_880 (ci := 12) rfl rfl rfl hP hD hS hA [0, 1] [] rfl (by decide) rfl (by decide) (by decide) rfl hl.1 rfl (Nat.le_of_ble_eq_true rfl) dX12_doubt_10 ⟨(Nat.le_of_ble_eq_true rfl), (Nat.le_of_ble_eq_true rfl)⟩ ⟨(Nat.le_of_ble_eq_true rfl), (Nat.le_of_ble_eq_true rfl)⟩ (fun u6 H locs q7 hP hD hS => ?_)
      obtain ⟨q7_0, q7_1⟩ := q7
      have hP : va_P g.1 vwCl [(h0, .inr (12, [.int mthrown, .ref a1, .ref a2, .ref a3, .ref a4, .int mtaped, .ref a6, .int msize, .int mat, .int mfrom, .int mtoken, .int mvalue, .int mfaultKind, .int mfaultPlace, .ref a14, .ref a15, .int mgoal, .int mgoalDays, .int mgoalHearer, .ref a19, .ref a20, .int mleastOrder, .int mwordsMany, .ref a23, .ref a24, .ref a25, .ref a26, .ref a27, .ref a28])), (a1, .inl (g.2 0, 225, .inl mworld))] H := hP
      have hD : va_D A [(h0, .inr (12, [.int mthrown, .ref a1, .ref a2, .ref a3, .ref a4, .int mtaped, .ref a6, .int msize, .int mat, .int mfrom, .int mtoken, .int mvalue, .int mfaultKind, .int mfaultPlace, .ref a14, .ref a15, .int mgoal, .int mgoalDays, .int mgoalHearer, .ref a19, .ref a20, .int mleastOrder, .int mwordsMany, .ref a23, .ref a24, .ref a25, .ref a26, .ref a27, .ref a28])), (a1, .inl (g.2 0, 225, .inl mworld))] := hD
      refine W.eq (g2 := F0 m 13 ls [.int (u6.1 0)]) rfl ?_
      rcases (show (u6.1 0).toInt = 0 ∨ (u6.1 0).toInt = 1 by omega) with c8 | c8
      · skip
        refine lv_if_eq (tgt := 45) hx hb dX12_doubt_13 (by decide) (fun c9 => ?_) (fun c9 => ?_)
        · have c9 := k_eq (a := (u6.1 0).toInt) (b := 0) rfl (by decide) c9
          refine lv_bipush (v := -2) hx hb dX12_doubt_45 (by decide) ?_
          exact rt_i FX ((fun k => match k with | 0 => (-2 : Int32) | _ => 0), (fun k => match k with | 0 => mworld | _ => fun _ => 0), (fun _ => fun _ => 0)) rfl i_mworld (hP.sub [0, 1] rfl) (hD.sub [0, 1] (by decide) rfl) hS (Nat.le_of_ble_eq_true rfl) (Nat.le_of_ble_eq_true rfl) dX12_doubt_47
        · have c9 := k_ne (a := (u6.1 0).toInt) (b := 0) rfl (by decide) c9
          exfalso; omega
      · have c8_r := q7_1 c8
        refine lv_if_eq (tgt := 45) hx hb dX12_doubt_13 (by decide) (fun c10 => ?_) (fun c10 => ?_)
        · have c10 := k_eq (a := (u6.1 0).toInt) (b := 0) rfl (by decide) c10
          exfalso; omega
        · have c10 := k_ne (a := (u6.1 0).toInt) (b := 0) rfl (by decide) c10
          refine lv_iload_n hx hb dX12_doubt_16 rfl (lv_at hl 3 rfl) ?_
          refine lv_i2l (v := p3.toInt64) hx hb dX12_doubt_17 rfl ?_
          refine lv_topl (fun z11 e_z11 => ?_)
          have t_z11 : z11.toInt = p3.toInt := by rw [e_z11]; exact Int32.toInt_toInt64 _
          refine lv_lconst (v := 0) hx hb dX12_doubt_18 (by decide) ?_
          refine lv_ldc2 hx hb hown (hB _ b_1063) dX12_doubt_19 ?_
          have kcl0 : (0 : Int64).toInt = 0 := by decide
          have kcl20 : (20 : Int64).toInt = 20 := by decide
          refine call_S (As := [.long z11, .long 0, .long 20]) (rest := []) (wr := [(h0, .inr (12, [.int mthrown, .ref a1, .ref a2, .ref a3, .ref a4, .int mtaped, .ref a6, .int msize, .int mat, .int mfrom, .int mtoken, .int mvalue, .int mfaultKind, .int mfaultPlace, .ref a14, .ref a15, .int mgoal, .int mgoalDays, .int mgoalHearer, .ref a19, .ref a20, .int mleastOrder, .int mwordsMany, .ref a23, .ref a24, .ref a25, .ref a26, .ref a27, .ref a28])), (a1, .inl (g.2 0, 225, .inl mworld))]) FC hKn hZ (k_X12_in l g z11 ((0 : Int64)) ((20 : Int64))) m_yX12_in b_802 hP hD hS hA [] [0, 1] rfl (by decide) rfl (by decide) (by decide) rfl hl.1 rfl (Nat.le_of_ble_eq_true rfl) dX12_doubt_22 ⟨(Nat.le_of_ble_eq_true rfl), (Nat.le_of_ble_eq_true rfl)⟩ ⟨(Nat.le_of_ble_eq_true rfl), (Nat.le_of_ble_eq_true rfl)⟩ (fun u12 H locs q13 hP hD hS => ?_)
          obtain ⟨q13_0, q13_1, q13_2⟩ := q13
          have hP : va_P g.1 vwCl [(h0, .inr (12, [.int mthrown, .ref a1, .ref a2, .ref a3, .ref a4, .int mtaped, .ref a6, .int msize, .int mat, .int mfrom, .int mtoken, .int mvalue, .int mfaultKind, .int mfaultPlace, .ref a14, .ref a15, .int mgoal, .int mgoalDays, .int mgoalHearer, .ref a19, .ref a20, .int mleastOrder, .int mwordsMany, .ref a23, .ref a24, .ref a25, .ref a26, .ref a27, .ref a28])), (a1, .inl (g.2 0, 225, .inl mworld))] H := hP
          have hD : va_D A [(h0, .inr (12, [.int mthrown, .ref a1, .ref a2, .ref a3, .ref a4, .int mtaped, .ref a6, .int msize, .int mat, .int mfrom, .int mtoken, .int mvalue, .int mfaultKind, .int mfaultPlace, .ref a14, .ref a15, .int mgoal, .int mgoalDays, .int mgoalHearer, .ref a19, .ref a20, .int mleastOrder, .int mwordsMany, .ref a23, .ref a24, .ref a25, .ref a26, .ref a27, .ref a28])), (a1, .inl (g.2 0, 225, .inl mworld))] := hD
          refine W.eq (g2 := F0 m 25 ls [.int (u12.1 0)]) rfl ?_
          rcases (show (u12.1 0).toInt = 0 ∨ (u12.1 0).toInt = 1 by omega) with c14 | c14
          · skip
            refine lv_if_eq (tgt := 45) hx hb dX12_doubt_25 (by decide) (fun c15 => ?_) (fun c15 => ?_)
            · have c15 := k_eq (a := (u12.1 0).toInt) (b := 0) rfl (by decide) c15
              refine lv_bipush (v := -2) hx hb dX12_doubt_45 (by decide) ?_
              exact rt_i FX ((fun k => match k with | 0 => (-2 : Int32) | _ => 0), (fun k => match k with | 0 => mworld | _ => fun _ => 0), (fun _ => fun _ => 0)) rfl i_mworld (hP.sub [0, 1] rfl) (hD.sub [0, 1] (by decide) rfl) hS (Nat.le_of_ble_eq_true rfl) (Nat.le_of_ble_eq_true rfl) dX12_doubt_47
            · have c15 := k_ne (a := (u12.1 0).toInt) (b := 0) rfl (by decide) c15
              exfalso; omega
          · have c14_r := q13_2 c14
            refine lv_if_eq (tgt := 45) hx hb dX12_doubt_25 (by decide) (fun c16 => ?_) (fun c16 => ?_)
            · have c16 := k_eq (a := (u12.1 0).toInt) (b := 0) rfl (by decide) c16
              exfalso; omega
            · have c16 := k_ne (a := (u12.1 0).toInt) (b := 0) rfl (by decide) c16
              refine lv_aload_n hx hb dX12_doubt_28 rfl (lv_at hl 0 rfl) ?_
              refine lv_bipush (v := 19) hx hb dX12_doubt_29 (by decide) ?_
              refine lv_bipush (v := 9) hx hb dX12_doubt_31 (by decide) ?_
              refine lv_iload_n hx hb dX12_doubt_33 rfl (lv_at hl 1 rfl) ?_
              refine lv_imul hx hb dX12_doubt_34 ?_
              have kc9 : (9 : Int32).toInt = 9 := by decide
              refine lv_topi (fun z17 e_z17 => ?_)
              have t_z17 : z17.toInt = 9 * p1.toInt := by rw [e_z17, fb_mulI (by rw [show (9 : Int32).toInt = 9 by decide]; omega) (by rw [show (9 : Int32).toInt = 9 by decide]; omega), show (9 : Int32).toInt = 9 by decide]
              refine lv_iadd hx hb dX12_doubt_35 ?_
              have kc19 : (19 : Int32).toInt = 19 := by decide
              refine lv_topi (fun z18 e_z18 => ?_)
              have t_z18 : z18.toInt = ((19 : Int32)).toInt + z17.toInt := by rw [e_z18]; exact fb_addI (by omega) (by omega)
              refine lv_iload_n hx hb dX12_doubt_36 rfl (lv_at hl 2 rfl) ?_
              refine lv_iadd hx hb dX12_doubt_37 ?_
              refine lv_topi (fun z19 e_z19 => ?_)
              have t_z19 : z19.toInt = z18.toInt + p2.toInt := by rw [e_z19]; exact fb_addI (by omega) (by omega)
              refine lv_iload_n hx hb dX12_doubt_38 rfl (lv_at hl 3 rfl) ?_
              refine call_V (As := [.int z19, .int p3]) (rest := []) (wr := []) FC hKn hZ (k_X12_change l g h0 a1 a2 a3 a4 a6 a14 a15 a19 a20 a23 a24 a25 a26 a27 a28 mthrown mtaped msize mat mfrom mtoken mvalue mfaultKind mfaultPlace mgoal mgoalDays mgoalHearer mleastOrder mwordsMany mworld z19 p3 (by omega) (by omega) (by omega) (by omega) (by omega) (by omega) (by omega) (by omega) i_mworld (by omega)) m_yX12_change b_1098 (ci := 12) rfl rfl rfl hP hD hS hA [0, 1] [] rfl (by decide) rfl (by decide) (by decide) rfl hl.1 rfl (Nat.le_of_ble_eq_true rfl) dX12_doubt_39 ⟨(Nat.le_of_ble_eq_true rfl), (Nat.le_of_ble_eq_true rfl)⟩ ⟨(Nat.le_of_ble_eq_true rfl), (Nat.le_of_ble_eq_true rfl)⟩ (fun u20 H locs q21 hP hD hS => ?_)
              have q21_0 : wod (u20.2.1 0) := q21
              have hP : va_P g.1 vwCl [(h0, .inr (12, [.int mthrown, .ref a1, .ref a2, .ref a3, .ref a4, .int mtaped, .ref a6, .int msize, .int mat, .int mfrom, .int mtoken, .int mvalue, .int mfaultKind, .int mfaultPlace, .ref a14, .ref a15, .int mgoal, .int mgoalDays, .int mgoalHearer, .ref a19, .ref a20, .int mleastOrder, .int mwordsMany, .ref a23, .ref a24, .ref a25, .ref a26, .ref a27, .ref a28])), (a1, .inl (g.2 0, 225, .inl (u20.2.1 0)))] H := hP
              have hD : va_D A [(h0, .inr (12, [.int mthrown, .ref a1, .ref a2, .ref a3, .ref a4, .int mtaped, .ref a6, .int msize, .int mat, .int mfrom, .int mtoken, .int mvalue, .int mfaultKind, .int mfaultPlace, .ref a14, .ref a15, .int mgoal, .int mgoalDays, .int mgoalHearer, .ref a19, .ref a20, .int mleastOrder, .int mwordsMany, .ref a23, .ref a24, .ref a25, .ref a26, .ref a27, .ref a28])), (a1, .inl (g.2 0, 225, .inl (u20.2.1 0)))] := hD
              refine W.eq (g2 := F0 m 42 ls [.int (u20.1 0)]) rfl ?_
              refine lv_goto (tgt := 47) hx hb dX12_doubt_42 (by decide) ?_
              exact rt_i FX ((fun k => match k with | 0 => u20.1 0 | _ => 0), (fun k => match k with | 0 => u20.2.1 0 | _ => fun _ => 0), (fun _ => fun _ => 0)) rfl q21_0 (hP.sub [0, 1] rfl) (hD.sub [0, 1] (by decide) rfl) hS (Nat.le_of_ble_eq_true rfl) (Nat.le_of_ble_eq_true rfl) dX12_doubt_47
set_option maxRecDepth 100000 in
set_option maxHeartbeats 4000000 in
theorem k_X12_undo (l : Launch) (g : GG) (h0 : Nat) (a1 : Nat) (a2 : Nat) (a3 : Nat) (a4 : Nat) (a6 : Nat) (a14 : Nat) (a15 : Nat) (a19 : Nat) (a20 : Nat) (a23 : Nat) (a24 : Nat) (a25 : Nat) (a26 : Nat) (a27 : Nat) (a28 : Nat) (mthrown : Int32) (mtaped : Int32) (msize : Int32) (mat : Int32) (mfrom : Int32) (mtoken : Int32) (mvalue : Int32) (mfaultKind : Int32) (mfaultPlace : Int32) (mgoal : Int32) (mgoalDays : Int32) (mgoalHearer : Int32) (mleastOrder : Int32) (mwordsMany : Int32) (mworld : Nat → Int32) (i_mtaped : 0 ≤ mtaped.toInt ∧ mtaped.toInt ≤ 900) (i_msize : 0 ≤ msize.toInt ∧ msize.toInt ≤ 900) (i_mat : 0 ≤ mat.toInt ∧ mat.toInt ≤ 900) (i_mfrom : 0 ≤ mfrom.toInt ∧ mfrom.toInt ≤ 900) (i_mtoken : 0 ≤ mtoken.toInt ∧ mtoken.toInt ≤ 4) (i_mvalue : 0 ≤ mvalue.toInt ∧ mvalue.toInt ≤ 99999) (i_mgoalHearer : 0 ≤ mgoalHearer.toInt ∧ mgoalHearer.toInt ≤ 3) (i_mwordsMany : 0 ≤ mwordsMany.toInt ∧ mwordsMany.toInt ≤ 10) (i_mworld : wod mworld) : Ct l g yX12_undo cX12_undo 1 (some .int) { frames := 1, cells := 0, slots := 0, locals := 20 } [.ref h0] [(h0, .inr (12, [.int mthrown, .ref a1, .ref a2, .ref a3, .ref a4, .int mtaped, .ref a6, .int msize, .int mat, .int mfrom, .int mtoken, .int mvalue, .int mfaultKind, .int mfaultPlace, .ref a14, .ref a15, .int mgoal, .int mgoalDays, .int mgoalHearer, .ref a19, .ref a20, .int mleastOrder, .int mwordsMany, .ref a23, .ref a24, .ref a25, .ref a26, .ref a27, .ref a28])), (a1, .inl (g.2 0, 225, .inl mworld))] (S := (Nat → Int32) × (Nat → Nat → Int32) × (Nat → Nat → Int64)) (fun u => some (.int (u.1 0))) (fun u => (wod (u.2.1 0))) (fun u => [(h0, .inr (12, [.int mthrown, .ref a1, .ref a2, .ref a3, .ref a4, .int mtaped, .ref a6, .int msize, .int mat, .int mfrom, .int mtoken, .int mvalue, .int mfaultKind, .int mfaultPlace, .ref a14, .ref a15, .int mgoal, .int mgoalDays, .int mgoalHearer, .ref a19, .ref a20, .int mleastOrder, .int mwordsMany, .ref a23, .ref a24, .ref a25, .ref a26, .ref a27, .ref a28])), (a1, .inl (g.2 0, 225, .inl (u.2.1 0)))]) := by
  refine Ct.of (by decide) (Nat.le_of_ble_eq_true rfl) ?_
  intro p e s m below meth c A ls FX hP hD hS hl
  obtain ⟨FC, hr, hlk, hKn, hA, hnm, hZ⟩ := id FX
  have FC : CallFix p m c cX12_undo 1 s _ BIG RX12 := FC
  obtain ⟨hx, hb, hml, hown, hB⟩ := id FC
  have hl : lv_has ls 1 [(0, .ref h0)] := hl
  have h10 := wk_10 i_mworld.1
  refine lv_aload_n hx hb dX12_undo_0 rfl (lv_at hl 0 rfl) ?_
  refine call_V (As := []) (rest := []) (wr := []) FC hKn hZ (k_X12_isDesk l g h0 a1 a2 a3 a4 a6 a14 a15 a19 a20 a23 a24 a25 a26 a27 a28 mthrown mtaped msize mat mfrom mtoken mvalue mfaultKind mfaultPlace mgoal mgoalDays mgoalHearer mleastOrder mwordsMany mworld (by omega) (by omega) (by omega) (by omega) (by omega) (by omega) (by omega) (by omega) i_mworld) m_yX12_isDesk b_805 (ci := 12) rfl rfl rfl hP hD hS hA [0, 1] [] rfl (by decide) rfl (by decide) (by decide) rfl hl.1 rfl (Nat.le_of_ble_eq_true rfl) dX12_undo_1 ⟨(Nat.le_of_ble_eq_true rfl), (Nat.le_of_ble_eq_true rfl)⟩ ⟨(Nat.le_of_ble_eq_true rfl), (Nat.le_of_ble_eq_true rfl)⟩ (fun u1 H locs q2 hP hD hS => ?_)
  obtain ⟨q2_0, q2_1⟩ := q2
  have hP : va_P g.1 vwCl [(h0, .inr (12, [.int mthrown, .ref a1, .ref a2, .ref a3, .ref a4, .int mtaped, .ref a6, .int msize, .int mat, .int mfrom, .int mtoken, .int mvalue, .int mfaultKind, .int mfaultPlace, .ref a14, .ref a15, .int mgoal, .int mgoalDays, .int mgoalHearer, .ref a19, .ref a20, .int mleastOrder, .int mwordsMany, .ref a23, .ref a24, .ref a25, .ref a26, .ref a27, .ref a28])), (a1, .inl (g.2 0, 225, .inl mworld))] H := hP
  have hD : va_D A [(h0, .inr (12, [.int mthrown, .ref a1, .ref a2, .ref a3, .ref a4, .int mtaped, .ref a6, .int msize, .int mat, .int mfrom, .int mtoken, .int mvalue, .int mfaultKind, .int mfaultPlace, .ref a14, .ref a15, .int mgoal, .int mgoalDays, .int mgoalHearer, .ref a19, .ref a20, .int mleastOrder, .int mwordsMany, .ref a23, .ref a24, .ref a25, .ref a26, .ref a27, .ref a28])), (a1, .inl (g.2 0, 225, .inl mworld))] := hD
  refine W.eq (g2 := F0 m 4 ls [.int (u1.1 0)]) rfl ?_
  rcases (show (u1.1 0).toInt = 0 ∨ (u1.1 0).toInt = 1 by omega) with c3 | c3
  · skip
    refine lv_if_ne (tgt := 10) hx hb dX12_undo_4 (by decide) (fun c4 => ?_) (fun c4 => ?_)
    · have c4 := k_ne (a := (u1.1 0).toInt) (b := 0) rfl (by decide) c4
      exfalso; omega
    · have c4 := k_eq (a := (u1.1 0).toInt) (b := 0) rfl (by decide) c4
      refine lv_bipush (v := -2) hx hb dX12_undo_7 (by decide) ?_
      exact rt_i FX ((fun k => match k with | 0 => (-2 : Int32) | _ => 0), (fun k => match k with | 0 => mworld | _ => fun _ => 0), (fun _ => fun _ => 0)) rfl i_mworld (hP.sub [0, 1] rfl) (hD.sub [0, 1] (by decide) rfl) hS (Nat.le_of_ble_eq_true rfl) (Nat.le_of_ble_eq_true rfl) dX12_undo_9
  · have c3_r := q2_1 c3
    refine lv_if_ne (tgt := 10) hx hb dX12_undo_4 (by decide) (fun c5 => ?_) (fun c5 => ?_)
    · have c5 := k_ne (a := (u1.1 0).toInt) (b := 0) rfl (by decide) c5
      refine lv_aload_n hx hb dX12_undo_10 rfl (lv_at hl 0 rfl) ?_
      refine g_get (C := RX12) (T := TX12) (N := 29) (ci := 12) (v := .ref a1) FC hKn hP i_X12 0 rfl rfl 1 (by decide) b_801 rfl dX12_undo_11 ?_
      refine lv_bipush (v := 10) hx hb dX12_undo_14 (by decide) ?_
      refine va_iald hx hb hKn.1 hP 1 0 rfl rfl (by unfold vp_in; decide) dX12_undo_16 ?_
      have kc10 : (10 : Int32).toInt = 10 := by decide
      refine lv_topi (fun z6 e_z6 => ?_)
      have t_z6 : 0 ≤ z6.toInt ∧ z6.toInt ≤ 60 := by rw [e_z6]; exact wk_10 i_mworld.1
      have q_z6 : z6.toInt = (mworld 10).toInt := by rw [e_z6]; rfl
      refine lv_if_ne (tgt := 23) hx hb dX12_undo_17 (by decide) (fun c7 => ?_) (fun c7 => ?_)
      · have c7 := k_ne (a := z6.toInt) (b := 0) rfl (by decide) c7
        refine lv_aload_n hx hb dX12_undo_23 rfl (lv_at hl 0 rfl) ?_
        refine g_get (C := RX12) (T := TX12) (N := 29) (ci := 12) (v := .ref a1) FC hKn hP i_X12 0 rfl rfl 1 (by decide) b_801 rfl dX12_undo_24 ?_
        refine lv_bipush (v := 10) hx hb dX12_undo_27 (by decide) ?_
        refine lv_dup2_11 hx hb dX12_undo_29 rfl rfl ?_
        refine va_iald hx hb hKn.1 hP 1 0 rfl rfl (by unfold vp_in; decide) dX12_undo_30 ?_
        refine tp_i (v := z6) e_z6.symm ?_
        refine lv_iconst (v := 1) hx hb dX12_undo_31 (by decide) ?_
        refine lv_isub hx hb dX12_undo_32 ?_
        have kc1 : (1 : Int32).toInt = 1 := by decide
        refine lv_topi (fun z8 e_z8 => ?_)
        have t_z8 : z8.toInt = z6.toInt - ((1 : Int32)).toInt := by rw [e_z8]; exact fb_subI (by omega) (by omega)
        have hc9 := wk_ch i_mworld.1 (k := ((mworld 10).toInt - 1).toNat) (by omega)
        unfold wch at hc9
        refine va_iast hx hb hKn.1 hP hD hS 1 0 rfl rfl (by unfold vp_in; decide) dX12_undo_33 (fun H locs hP hD hS => ?_)
        have hP : va_P g.1 vwCl [(h0, .inr (12, [.int mthrown, .ref a1, .ref a2, .ref a3, .ref a4, .int mtaped, .ref a6, .int msize, .int mat, .int mfrom, .int mtoken, .int mvalue, .int mfaultKind, .int mfaultPlace, .ref a14, .ref a15, .int mgoal, .int mgoalDays, .int mgoalHearer, .ref a19, .ref a20, .int mleastOrder, .int mwordsMany, .ref a23, .ref a24, .ref a25, .ref a26, .ref a27, .ref a28])), (a1, .inl (g.2 0, 225, .inl (upd mworld ((10 : Int32).toNatClampNeg) z8)))] H := hP
        have hD : va_D A [(h0, .inr (12, [.int mthrown, .ref a1, .ref a2, .ref a3, .ref a4, .int mtaped, .ref a6, .int msize, .int mat, .int mfrom, .int mtoken, .int mvalue, .int mfaultKind, .int mfaultPlace, .ref a14, .ref a15, .int mgoal, .int mgoalDays, .int mgoalHearer, .ref a19, .ref a20, .int mleastOrder, .int mwordsMany, .ref a23, .ref a24, .ref a25, .ref a26, .ref a27, .ref a28])), (a1, .inl (g.2 0, 225, .inl (upd mworld ((10 : Int32).toNatClampNeg) z8)))] := hD
        have a_f9 : wod (upd mworld ((10 : Int32).toNatClampNeg) z8) := (wx_n i_mworld (by omega) (fun k h1 h2 => wk_ch i_mworld.1 (by omega)))
        generalize E_f9 : (upd mworld ((10 : Int32).toNatClampNeg) z8 : Nat → Int32) = f9 at hP hD a_f9
        have g_f9_10 : (f9 10).toInt = z8.toInt := by rw [← E_f9]; exact congrArg Int32.toInt (pk_us (k := 10))
        refine lv_aload_n hx hb dX12_undo_34 rfl (lv_at hl 0 rfl) ?_
        refine g_get (C := RX12) (T := TX12) (N := 29) (ci := 12) (v := .ref a1) FC hKn hP i_X12 0 rfl rfl 1 (by decide) b_801 rfl dX12_undo_35 ?_
        refine lv_aload_n hx hb dX12_undo_38 rfl (lv_at hl 0 rfl) ?_
        refine g_get (C := RX12) (T := TX12) (N := 29) (ci := 12) (v := .ref a1) FC hKn hP i_X12 0 rfl rfl 1 (by decide) b_801 rfl dX12_undo_39 ?_
        refine lv_bipush (v := 105) hx hb dX12_undo_42 (by decide) ?_
        refine lv_iconst (v := 2) hx hb dX12_undo_44 (by decide) ?_
        refine lv_aload_n hx hb dX12_undo_45 rfl (lv_at hl 0 rfl) ?_
        refine g_get (C := RX12) (T := TX12) (N := 29) (ci := 12) (v := .ref a1) FC hKn hP i_X12 0 rfl rfl 1 (by decide) b_801 rfl dX12_undo_46 ?_
        refine lv_bipush (v := 10) hx hb dX12_undo_49 (by decide) ?_
        refine va_iald hx hb hKn.1 hP 1 0 rfl rfl (by unfold vp_in; decide) dX12_undo_51 ?_
        refine lv_topi (fun z10 e_z10 => ?_)
        have t_z10 : 0 ≤ z10.toInt ∧ z10.toInt ≤ 60 := by rw [e_z10]; exact wk_10 a_f9.1
        have q_z10 : z10.toInt = (f9 10).toInt := by rw [e_z10]; rfl
        refine lv_imul hx hb dX12_undo_52 ?_
        have kc2 : (2 : Int32).toInt = 2 := by decide
        refine lv_topi (fun z11 e_z11 => ?_)
        have t_z11 : z11.toInt = 2 * z10.toInt := by rw [e_z11, fb_mulI (by rw [show (2 : Int32).toInt = 2 by decide]; omega) (by rw [show (2 : Int32).toInt = 2 by decide]; omega), show (2 : Int32).toInt = 2 by decide]
        refine lv_iadd hx hb dX12_undo_53 ?_
        have kc105 : (105 : Int32).toInt = 105 := by decide
        refine lv_topi (fun z12 e_z12 => ?_)
        have t_z12 : z12.toInt = ((105 : Int32)).toInt + z11.toInt := by rw [e_z12]; exact fb_addI (by omega) (by omega)
        refine va_iald hx hb hKn.1 hP 1 0 rfl rfl (vp_in_iff.mpr ⟨by omega, by omega⟩) dX12_undo_54 ?_
        refine lv_topi (fun z13 e_z13 => ?_)
        have q_z13 : z13.toInt = (f9 z12.toNatClampNeg).toInt := by rw [e_z13]
        refine lv_aload_n hx hb dX12_undo_55 rfl (lv_at hl 0 rfl) ?_
        refine g_get (C := RX12) (T := TX12) (N := 29) (ci := 12) (v := .ref a1) FC hKn hP i_X12 0 rfl rfl 1 (by decide) b_801 rfl dX12_undo_56 ?_
        refine lv_bipush (v := 105) hx hb dX12_undo_59 (by decide) ?_
        refine lv_iconst (v := 2) hx hb dX12_undo_61 (by decide) ?_
        refine lv_aload_n hx hb dX12_undo_62 rfl (lv_at hl 0 rfl) ?_
        refine g_get (C := RX12) (T := TX12) (N := 29) (ci := 12) (v := .ref a1) FC hKn hP i_X12 0 rfl rfl 1 (by decide) b_801 rfl dX12_undo_63 ?_
        refine lv_bipush (v := 10) hx hb dX12_undo_66 (by decide) ?_
        refine va_iald hx hb hKn.1 hP 1 0 rfl rfl (by unfold vp_in; decide) dX12_undo_68 ?_
        refine tp_i (v := z10) e_z10.symm ?_
        refine lv_imul hx hb dX12_undo_69 ?_
        refine lv_topi (fun z14 e_z14 => ?_)
        have t_z14 : z14.toInt = 2 * z10.toInt := by rw [e_z14, fb_mulI (by rw [show (2 : Int32).toInt = 2 by decide]; omega) (by rw [show (2 : Int32).toInt = 2 by decide]; omega), show (2 : Int32).toInt = 2 by decide]
        refine lv_iadd hx hb dX12_undo_70 ?_
        refine lv_topi (fun z15 e_z15 => ?_)
        have t_z15 : z15.toInt = ((105 : Int32)).toInt + z14.toInt := by rw [e_z15]; exact fb_addI (by omega) (by omega)
        refine lv_iconst (v := 1) hx hb dX12_undo_71 (by decide) ?_
        refine lv_iadd hx hb dX12_undo_72 ?_
        refine lv_topi (fun z16 e_z16 => ?_)
        have t_z16 : z16.toInt = z15.toInt + ((1 : Int32)).toInt := by rw [e_z16]; exact fb_addI (by omega) (by omega)
        refine va_iald hx hb hKn.1 hP 1 0 rfl rfl (vp_in_iff.mpr ⟨by omega, by omega⟩) dX12_undo_73 ?_
        refine lv_topi (fun z17 e_z17 => ?_)
        have q_z17 : z17.toInt = (f9 z16.toNatClampNeg).toInt := by rw [e_z17]
        have y_z13 : z13 = mworld (105 + 2 * ((mworld 10).toInt - 1).toNat) := by rw [e_z13, ixe (x := z12) (n := 105 + 2 * ((mworld 10).toInt - 1).toNat) (by omega), ← E_f9, uo (by rw [show (10 : Int32).toNatClampNeg = 10 from rfl]; omega)]
        have y_z17 : z17 = mworld (106 + 2 * ((mworld 10).toInt - 1).toNat) := by rw [e_z17, ixe (x := z16) (n := 106 + 2 * ((mworld 10).toInt - 1).toNat) (by omega), ← E_f9, uo (by rw [show (10 : Int32).toNatClampNeg = 10 from rfl]; omega)]
        rw [← y_z13, ← y_z17] at hc9
        refine va_iast hx hb hKn.1 hP hD hS 1 0 rfl rfl (vp_in_iff.mpr ⟨by omega, by omega⟩) dX12_undo_74 (fun H locs hP hD hS => ?_)
        have hP : va_P g.1 vwCl [(h0, .inr (12, [.int mthrown, .ref a1, .ref a2, .ref a3, .ref a4, .int mtaped, .ref a6, .int msize, .int mat, .int mfrom, .int mtoken, .int mvalue, .int mfaultKind, .int mfaultPlace, .ref a14, .ref a15, .int mgoal, .int mgoalDays, .int mgoalHearer, .ref a19, .ref a20, .int mleastOrder, .int mwordsMany, .ref a23, .ref a24, .ref a25, .ref a26, .ref a27, .ref a28])), (a1, .inl (g.2 0, 225, .inl (upd f9 (z13.toNatClampNeg) z17)))] H := hP
        have hD : va_D A [(h0, .inr (12, [.int mthrown, .ref a1, .ref a2, .ref a3, .ref a4, .int mtaped, .ref a6, .int msize, .int mat, .int mfrom, .int mtoken, .int mvalue, .int mfaultKind, .int mfaultPlace, .ref a14, .ref a15, .int mgoal, .int mgoalDays, .int mgoalHearer, .ref a19, .ref a20, .int mleastOrder, .int mwordsMany, .ref a23, .ref a24, .ref a25, .ref a26, .ref a27, .ref a28])), (a1, .inl (g.2 0, 225, .inl (upd f9 (z13.toNatClampNeg) z17)))] := hD
        have a_f18 : wod (upd f9 (z13.toNatClampNeg) z17) := (wx_c a_f9 (by omega))
        generalize (upd f9 (z13.toNatClampNeg) z17 : Nat → Int32) = f18 at hP hD a_f18
        refine lv_aload_n hx hb dX12_undo_75 rfl (lv_at hl 0 rfl) ?_
        refine g_get (C := RX12) (T := TX12) (N := 29) (ci := 12) (v := .ref a1) FC hKn hP i_X12 0 rfl rfl 1 (by decide) b_801 rfl dX12_undo_76 ?_
        refine lv_bipush (v := 10) hx hb dX12_undo_79 (by decide) ?_
        refine va_iald hx hb hKn.1 hP 1 0 rfl rfl (by unfold vp_in; decide) dX12_undo_81 ?_
        refine lv_topi (fun z19 e_z19 => ?_)
        have t_z19 : 0 ≤ z19.toInt ∧ z19.toInt ≤ 60 := by rw [e_z19]; exact wk_10 a_f18.1
        have q_z19 : z19.toInt = (f18 10).toInt := by rw [e_z19]; rfl
        exact rt_i FX ((fun k => match k with | 0 => z19 | _ => 0), (fun k => match k with | 0 => f18 | _ => fun _ => 0), (fun _ => fun _ => 0)) rfl a_f18 (hP.sub [0, 1] rfl) (hD.sub [0, 1] (by decide) rfl) hS (Nat.le_of_ble_eq_true rfl) (Nat.le_of_ble_eq_true rfl) dX12_undo_82
      · have c7 := k_eq (a := z6.toInt) (b := 0) rfl (by decide) c7
        refine lv_bipush (v := -5) hx hb dX12_undo_20 (by decide) ?_
        exact rt_i FX ((fun k => match k with | 0 => (-5 : Int32) | _ => 0), (fun k => match k with | 0 => mworld | _ => fun _ => 0), (fun _ => fun _ => 0)) rfl i_mworld (hP.sub [0, 1] rfl) (hD.sub [0, 1] (by decide) rfl) hS (Nat.le_of_ble_eq_true rfl) (Nat.le_of_ble_eq_true rfl) dX12_undo_22
    · have c5 := k_eq (a := (u1.1 0).toInt) (b := 0) rfl (by decide) c5
      exfalso; omega
