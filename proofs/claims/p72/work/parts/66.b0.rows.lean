set_option maxRecDepth 100000 in
set_option maxHeartbeats 4000000 in
theorem k_X12_swap (l : Launch) (g : GG) (h0 : Nat) (a1 : Nat) (a2 : Nat) (a3 : Nat) (a4 : Nat) (a6 : Nat) (a14 : Nat) (a15 : Nat) (a19 : Nat) (a20 : Nat) (a23 : Nat) (a24 : Nat) (a25 : Nat) (a26 : Nat) (a27 : Nat) (a28 : Nat) (mthrown : Int32) (mtaped : Int32) (msize : Int32) (mat : Int32) (mfrom : Int32) (mtoken : Int32) (mvalue : Int32) (mfaultKind : Int32) (mfaultPlace : Int32) (mgoal : Int32) (mgoalDays : Int32) (mgoalHearer : Int32) (mleastOrder : Int32) (mwordsMany : Int32) (morder : Nat → Int32) (p1 : Int32) (p2 : Int32) (i_mtaped : 0 ≤ mtaped.toInt ∧ mtaped.toInt ≤ 900) (i_msize : 0 ≤ msize.toInt ∧ msize.toInt ≤ 900) (i_mat : 0 ≤ mat.toInt ∧ mat.toInt ≤ 900) (i_mfrom : 0 ≤ mfrom.toInt ∧ mfrom.toInt ≤ 900) (i_mtoken : 0 ≤ mtoken.toInt ∧ mtoken.toInt ≤ 4) (i_mvalue : 0 ≤ mvalue.toInt ∧ mvalue.toInt ≤ 99999) (i_mgoalHearer : 0 ≤ mgoalHearer.toInt ∧ mgoalHearer.toInt ≤ 3) (i_mwordsMany : 0 ≤ mwordsMany.toInt ∧ mwordsMany.toInt ≤ 10) (i_p1 : 0 ≤ p1.toInt ∧ p1.toInt ≤ 5) (i_p2 : 0 ≤ p2.toInt ∧ p2.toInt ≤ 5) : Ct l g yX12_swap cX12_swap 4 none { frames := 0, cells := 0, slots := 0, locals := 0 } [.ref h0, .int p1, .int p2] [(h0, .inr (12, [.int mthrown, .ref a1, .ref a2, .ref a3, .ref a4, .int mtaped, .ref a6, .int msize, .int mat, .int mfrom, .int mtoken, .int mvalue, .int mfaultKind, .int mfaultPlace, .ref a14, .ref a15, .int mgoal, .int mgoalDays, .int mgoalHearer, .ref a19, .ref a20, .int mleastOrder, .int mwordsMany, .ref a23, .ref a24, .ref a25, .ref a26, .ref a27, .ref a28])), (a19, .inl (g.2 0, 6, .inl morder))] (S := (Nat → Int32) × (Nat → Nat → Int32) × (Nat → Nat → Int64)) (fun _ => none) (fun u => (u.2.1 0 = swp morder p1 p2)) (fun u => [(h0, .inr (12, [.int mthrown, .ref a1, .ref a2, .ref a3, .ref a4, .int mtaped, .ref a6, .int msize, .int mat, .int mfrom, .int mtoken, .int mvalue, .int mfaultKind, .int mfaultPlace, .ref a14, .ref a15, .int mgoal, .int mgoalDays, .int mgoalHearer, .ref a19, .ref a20, .int mleastOrder, .int mwordsMany, .ref a23, .ref a24, .ref a25, .ref a26, .ref a27, .ref a28])), (a19, .inl (g.2 0, 6, .inl (u.2.1 0)))]) := by
  refine Ct.of (by decide) (Nat.le_of_ble_eq_true rfl) ?_
  intro p e s m below meth c A ls FX hP hD hS hl
  obtain ⟨FC, hr, hlk, hKn, hA, hnm, hZ⟩ := id FX
  have FC : CallFix p m c cX12_swap 4 s _ BIG RX12 := FC
  obtain ⟨hx, hb, hml, hown, hB⟩ := id FC
  have hl : lv_has ls 4 [(0, .ref h0), (1, .int p1), (2, .int p2)] := hl
  refine lv_aload_n hx hb dX12_swap_0 rfl (lv_at hl 0 rfl) ?_
  refine g_get (C := RX12) (T := TX12) (N := 29) (ci := 12) (v := .ref a19) FC hKn hP i_X12 0 rfl rfl 19 (by decide) b_1023 rfl dX12_swap_1 ?_
  refine lv_iload_n hx hb dX12_swap_4 rfl (lv_at hl 1 rfl) ?_
  refine va_iald hx hb hKn.1 hP 1 0 rfl rfl (vp_in_iff.mpr ⟨by omega, by omega⟩) dX12_swap_5 ?_
  refine lv_topi (fun z1 e_z1 => ?_)
  refine lv_istore_n (lv' := [(3, .int z1), (0, .ref h0), (1, .int p1), (2, .int p2)]) hx hb dX12_swap_6 rfl hl (by decide) rfl (fun ls hl => ?_)
  refine lv_aload_n hx hb dX12_swap_7 rfl (lv_at hl 1 rfl) ?_
  refine g_get (C := RX12) (T := TX12) (N := 29) (ci := 12) (v := .ref a19) FC hKn hP i_X12 0 rfl rfl 19 (by decide) b_1023 rfl dX12_swap_8 ?_
  refine lv_iload_n hx hb dX12_swap_11 rfl (lv_at hl 2 rfl) ?_
  refine lv_aload_n hx hb dX12_swap_12 rfl (lv_at hl 1 rfl) ?_
  refine g_get (C := RX12) (T := TX12) (N := 29) (ci := 12) (v := .ref a19) FC hKn hP i_X12 0 rfl rfl 19 (by decide) b_1023 rfl dX12_swap_13 ?_
  refine lv_iload_n hx hb dX12_swap_16 rfl (lv_at hl 3 rfl) ?_
  refine va_iald hx hb hKn.1 hP 1 0 rfl rfl (vp_in_iff.mpr ⟨by omega, by omega⟩) dX12_swap_17 ?_
  refine lv_topi (fun z2 e_z2 => ?_)
  refine va_iast hx hb hKn.1 hP hD hS 1 0 rfl rfl (vp_in_iff.mpr ⟨by omega, by omega⟩) dX12_swap_18 (fun H locs hP hD hS => ?_)
  have hP : va_P g.1 vwCl [(h0, .inr (12, [.int mthrown, .ref a1, .ref a2, .ref a3, .ref a4, .int mtaped, .ref a6, .int msize, .int mat, .int mfrom, .int mtoken, .int mvalue, .int mfaultKind, .int mfaultPlace, .ref a14, .ref a15, .int mgoal, .int mgoalDays, .int mgoalHearer, .ref a19, .ref a20, .int mleastOrder, .int mwordsMany, .ref a23, .ref a24, .ref a25, .ref a26, .ref a27, .ref a28])), (a19, .inl (g.2 0, 6, .inl (upd morder (p1.toNatClampNeg) z2)))] H := hP
  have hD : va_D A [(h0, .inr (12, [.int mthrown, .ref a1, .ref a2, .ref a3, .ref a4, .int mtaped, .ref a6, .int msize, .int mat, .int mfrom, .int mtoken, .int mvalue, .int mfaultKind, .int mfaultPlace, .ref a14, .ref a15, .int mgoal, .int mgoalDays, .int mgoalHearer, .ref a19, .ref a20, .int mleastOrder, .int mwordsMany, .ref a23, .ref a24, .ref a25, .ref a26, .ref a27, .ref a28])), (a19, .inl (g.2 0, 6, .inl (upd morder (p1.toNatClampNeg) z2)))] := hD
  generalize E_f3 : (upd morder (p1.toNatClampNeg) z2 : Nat → Int32) = f3 at hP hD
  refine lv_aload_n hx hb dX12_swap_19 rfl (lv_at hl 1 rfl) ?_
  refine g_get (C := RX12) (T := TX12) (N := 29) (ci := 12) (v := .ref a19) FC hKn hP i_X12 0 rfl rfl 19 (by decide) b_1023 rfl dX12_swap_20 ?_
  refine lv_iload_n hx hb dX12_swap_23 rfl (lv_at hl 3 rfl) ?_
  refine lv_iload_n hx hb dX12_swap_24 rfl (lv_at hl 0 rfl) ?_
  refine va_iast hx hb hKn.1 hP hD hS 1 0 rfl rfl (vp_in_iff.mpr ⟨by omega, by omega⟩) dX12_swap_25 (fun H locs hP hD hS => ?_)
  have hP : va_P g.1 vwCl [(h0, .inr (12, [.int mthrown, .ref a1, .ref a2, .ref a3, .ref a4, .int mtaped, .ref a6, .int msize, .int mat, .int mfrom, .int mtoken, .int mvalue, .int mfaultKind, .int mfaultPlace, .ref a14, .ref a15, .int mgoal, .int mgoalDays, .int mgoalHearer, .ref a19, .ref a20, .int mleastOrder, .int mwordsMany, .ref a23, .ref a24, .ref a25, .ref a26, .ref a27, .ref a28])), (a19, .inl (g.2 0, 6, .inl (upd f3 (p2.toNatClampNeg) z1)))] H := hP
  have hD : va_D A [(h0, .inr (12, [.int mthrown, .ref a1, .ref a2, .ref a3, .ref a4, .int mtaped, .ref a6, .int msize, .int mat, .int mfrom, .int mtoken, .int mvalue, .int mfaultKind, .int mfaultPlace, .ref a14, .ref a15, .int mgoal, .int mgoalDays, .int mgoalHearer, .ref a19, .ref a20, .int mleastOrder, .int mwordsMany, .ref a23, .ref a24, .ref a25, .ref a26, .ref a27, .ref a28])), (a19, .inl (g.2 0, 6, .inl (upd f3 (p2.toNatClampNeg) z1)))] := hD
  generalize E_f4 : (upd f3 (p2.toNatClampNeg) z1 : Nat → Int32) = f4 at hP hD
  exact rt_v FX ((fun k => match k with | 0 => 0 | _ => 0), (fun k => match k with | 0 => f4 | _ => fun _ => 0), (fun _ => fun _ => 0)) rfl (show f4 = swp morder p1 p2 from (show _ = _ by rw [← E_f4, ← E_f3, e_z2, e_z1]; rfl)) (hP.sub [0, 1] rfl) (hD.sub [0, 1] (by decide) rfl) hS (Nat.le_of_ble_eq_true rfl) (Nat.le_of_ble_eq_true rfl) dX12_swap_26
set_option maxRecDepth 100000 in
set_option maxHeartbeats 4000000 in
theorem k_X12_nextOrder (l : Launch) (g : GG) (h0 : Nat) (a1 : Nat) (a2 : Nat) (a3 : Nat) (a4 : Nat) (a6 : Nat) (a14 : Nat) (a15 : Nat) (a19 : Nat) (a20 : Nat) (a23 : Nat) (a24 : Nat) (a25 : Nat) (a26 : Nat) (a27 : Nat) (a28 : Nat) (mthrown : Int32) (mtaped : Int32) (msize : Int32) (mat : Int32) (mfrom : Int32) (mtoken : Int32) (mvalue : Int32) (mfaultKind : Int32) (mfaultPlace : Int32) (mgoal : Int32) (mgoalDays : Int32) (mgoalHearer : Int32) (mleastOrder : Int32) (mwordsMany : Int32) (morder : Nat → Int32) (p1 : Int32) (i_mtaped : 0 ≤ mtaped.toInt ∧ mtaped.toInt ≤ 900) (i_msize : 0 ≤ msize.toInt ∧ msize.toInt ≤ 900) (i_mat : 0 ≤ mat.toInt ∧ mat.toInt ≤ 900) (i_mfrom : 0 ≤ mfrom.toInt ∧ mfrom.toInt ≤ 900) (i_mtoken : 0 ≤ mtoken.toInt ∧ mtoken.toInt ≤ 4) (i_mvalue : 0 ≤ mvalue.toInt ∧ mvalue.toInt ≤ 99999) (i_mgoalHearer : 0 ≤ mgoalHearer.toInt ∧ mgoalHearer.toInt ≤ 3) (i_mwordsMany : 0 ≤ mwordsMany.toInt ∧ mwordsMany.toInt ≤ 10) (i_p1 : 0 ≤ p1.toInt ∧ p1.toInt ≤ 6) (hod : odok p1 morder) : Ct l g yX12_nextOrder cX12_nextOrder 6 (some .boolean) { frames := 1, cells := 0, slots := 0, locals := 23 } [.ref h0, .int p1] [(h0, .inr (12, [.int mthrown, .ref a1, .ref a2, .ref a3, .ref a4, .int mtaped, .ref a6, .int msize, .int mat, .int mfrom, .int mtoken, .int mvalue, .int mfaultKind, .int mfaultPlace, .ref a14, .ref a15, .int mgoal, .int mgoalDays, .int mgoalHearer, .ref a19, .ref a20, .int mleastOrder, .int mwordsMany, .ref a23, .ref a24, .ref a25, .ref a26, .ref a27, .ref a28])), (a19, .inl (g.2 0, 6, .inl morder))] (S := (Nat → Int32) × (Nat → Nat → Int32) × (Nat → Nat → Int64)) (fun u => some (.int (u.1 0))) (fun u => (0 ≤ (u.1 0).toInt ∧ (u.1 0).toInt ≤ 1) ∧ (odok p1 (u.2.1 0)) ∧ ((u.1 0).toInt = 1 → onum morder < onum (u.2.1 0))) (fun u => [(h0, .inr (12, [.int mthrown, .ref a1, .ref a2, .ref a3, .ref a4, .int mtaped, .ref a6, .int msize, .int mat, .int mfrom, .int mtoken, .int mvalue, .int mfaultKind, .int mfaultPlace, .ref a14, .ref a15, .int mgoal, .int mgoalDays, .int mgoalHearer, .ref a19, .ref a20, .int mleastOrder, .int mwordsMany, .ref a23, .ref a24, .ref a25, .ref a26, .ref a27, .ref a28])), (a19, .inl (g.2 0, 6, .inl (u.2.1 0)))]) := by
  refine Ct.of (by decide) (Nat.le_of_ble_eq_true rfl) ?_
  intro p e s m below meth c A ls FX hP hD hS hl
  obtain ⟨FC, hr, hlk, hKn, hA, hnm, hZ⟩ := id FX
  have FC : CallFix p m c cX12_nextOrder 6 s _ BIG RX12 := FC
  obtain ⟨hx, hb, hml, hown, hB⟩ := id FC
  have hl : lv_has ls 6 [(0, .ref h0), (1, .int p1)] := hl
  refine lv_iload_n hx hb dX12_nextOrder_0 rfl (lv_at hl 1 rfl) ?_
  refine lv_iconst (v := 2) hx hb dX12_nextOrder_1 (by decide) ?_
  refine lv_isub hx hb dX12_nextOrder_2 ?_
  have kc2 : (2 : Int32).toInt = 2 := by decide
  refine lv_topi (fun z1 e_z1 => ?_)
  have t_z1 : z1.toInt = p1.toInt - ((2 : Int32)).toInt := by rw [e_z1]; exact fb_subI (by omega) (by omega)
  refine lv_istore_n (lv' := [(2, .int z1), (0, .ref h0), (1, .int p1)]) hx hb dX12_nextOrder_3 rfl hl (by decide) rfl (fun ls hl => ?_)
  have lp255 : ∀ (n257 : Nat) (x253 : Int32) (H : Heap) (locs : List Loc) (ls : Array Slot), -2 ≤ x253.toInt ∧ x253.toInt ≤ 4 → x253.toInt ≤ p1.toInt - 2 → (x253.toInt - (-1)).toNat < n257 → va_P g.1 vwCl [(h0, .inr (12, [.int mthrown, .ref a1, .ref a2, .ref a3, .ref a4, .int mtaped, .ref a6, .int msize, .int mat, .int mfrom, .int mtoken, .int mvalue, .int mfaultKind, .int mfaultPlace, .ref a14, .ref a15, .int mgoal, .int mgoalDays, .int mgoalHearer, .ref a19, .ref a20, .int mleastOrder, .int mwordsMany, .ref a23, .ref a24, .ref a25, .ref a26, .ref a27, .ref a28])), (a19, .inl (g.2 0, 6, .inl morder))] H → va_D A [(h0, .inr (12, [.int mthrown, .ref a1, .ref a2, .ref a3, .ref a4, .int mtaped, .ref a6, .int msize, .int mat, .int mfrom, .int mtoken, .int mvalue, .int mfaultKind, .int mfaultPlace, .ref a14, .ref a15, .int mgoal, .int mgoalDays, .int mgoalHearer, .ref a19, .ref a20, .int mleastOrder, .int mwordsMany, .ref a23, .ref a24, .ref a25, .ref a26, .ref a27, .ref a28])), (a19, .inl (g.2 0, 6, .inl morder))] → va_S A s.heap H locs → lv_has ls 6 [(2, .int x253), (0, .ref h0), (1, .int p1)] → W p l e { frames := 1, cells := 0, slots := 0, locals := 23 } s m ([.ref h0, .int p1].toArray) below meth c H locs 0 0 (MQ below (QX (S := (Nat → Int32) × (Nat → Nat → Int32) × (Nat → Nat → Int64)) (fun u => some (.int (u.1 0))) (fun u => (0 ≤ (u.1 0).toInt ∧ (u.1 0).toInt ≤ 1) ∧ (odok p1 (u.2.1 0)) ∧ ((u.1 0).toInt = 1 → onum morder < onum (u.2.1 0))) g (fun u => [(h0, .inr (12, [.int mthrown, .ref a1, .ref a2, .ref a3, .ref a4, .int mtaped, .ref a6, .int msize, .int mat, .int mfrom, .int mtoken, .int mvalue, .int mfaultKind, .int mfaultPlace, .ref a14, .ref a15, .int mgoal, .int mgoalDays, .int mgoalHearer, .ref a19, .ref a20, .int mleastOrder, .int mwordsMany, .ref a23, .ref a24, .ref a25, .ref a26, .ref a27, .ref a28])), (a19, .inl (g.2 0, 6, .inl (u.2.1 0)))]) A) ([.ref h0, .int p1].toArray) s 0 0 A) (F0 m 4 ls []) := by
    intro n257
    induction n257 with
    | zero =>
      intro x253 H locs ls h_x253 hi254 hn258
      exact absurd hn258 (Nat.not_lt_zero _)
    | succ n257 ih256 =>
      intro x253 H locs ls h_x253 hi254 hn258 hP hD hS hl
      refine lv_iload_n hx hb dX12_nextOrder_4 rfl (lv_at hl 0 rfl) ?_
      refine lv_if_lt (tgt := 31) hx hb dX12_nextOrder_5 (by decide) (fun c259 => ?_) (fun c259 => ?_)
      · have c259 := k_lt (a := x253.toInt) (b := 0) rfl (by decide) c259
        refine lv_iload_n hx hb dX12_nextOrder_31 rfl (lv_at hl 0 rfl) ?_
        refine lv_if_ge (tgt := 37) hx hb dX12_nextOrder_32 (by decide) (fun c260 => ?_) (fun c260 => ?_)
        · have c260 := k_le (a := 0) (b := x253.toInt) (by decide) rfl c260
          exfalso; omega
        · have c260 := k_nle (a := 0) (b := x253.toInt) (by decide) rfl c260
          refine lv_iconst (v := 0) hx hb dX12_nextOrder_35 (by decide) ?_
          exact rt_z FX rfl ((fun k => match k with | 0 => (0 : Int32) | _ => 0), (fun k => match k with | 0 => morder | _ => fun _ => 0), (fun _ => fun _ => 0)) rfl ⟨(show 0 ≤ ((0 : Int32)).toInt ∧ ((0 : Int32)).toInt ≤ 1 by decide), (show odok p1 (morder) from hod), (show ((0 : Int32)).toInt = 1 → onum morder < onum (morder) from (fun h => absurd h (by decide)))⟩ (hP.sub [0, 1] rfl) (hD.sub [0, 1] (by decide) rfl) hS (Nat.le_of_ble_eq_true rfl) (Nat.le_of_ble_eq_true rfl) dX12_nextOrder_36
      · have c259 := k_nlt (a := x253.toInt) (b := 0) rfl (by decide) c259
        refine lv_aload_n hx hb dX12_nextOrder_8 rfl (lv_at hl 1 rfl) ?_
        refine g_get (C := RX12) (T := TX12) (N := 29) (ci := 12) (v := .ref a19) FC hKn hP i_X12 0 rfl rfl 19 (by decide) b_1023 rfl dX12_nextOrder_9 ?_
        refine lv_iload_n hx hb dX12_nextOrder_12 rfl (lv_at hl 0 rfl) ?_
        refine va_iald hx hb hKn.1 hP 1 0 rfl rfl (vp_in_iff.mpr ⟨by omega, by omega⟩) dX12_nextOrder_13 ?_
        refine lv_topi (fun z261 e_z261 => ?_)
        refine lv_aload_n hx hb dX12_nextOrder_14 rfl (lv_at hl 1 rfl) ?_
        refine g_get (C := RX12) (T := TX12) (N := 29) (ci := 12) (v := .ref a19) FC hKn hP i_X12 0 rfl rfl 19 (by decide) b_1023 rfl dX12_nextOrder_15 ?_
        refine lv_iload_n hx hb dX12_nextOrder_18 rfl (lv_at hl 0 rfl) ?_
        refine lv_iconst (v := 1) hx hb dX12_nextOrder_19 (by decide) ?_
        refine lv_iadd hx hb dX12_nextOrder_20 ?_
        have kc1 : (1 : Int32).toInt = 1 := by decide
        refine lv_topi (fun z262 e_z262 => ?_)
        have t_z262 : z262.toInt = x253.toInt + ((1 : Int32)).toInt := by rw [e_z262]; exact fb_addI (by omega) (by omega)
        refine va_iald hx hb hKn.1 hP 1 0 rfl rfl (vp_in_iff.mpr ⟨by omega, by omega⟩) dX12_nextOrder_21 ?_
        refine lv_topi (fun z263 e_z263 => ?_)
        refine lv_icmp_le (tgt := 31) hx hb dX12_nextOrder_22 (by decide) (fun c264 => ?_) (fun c264 => ?_)
        · have c264 := k_le (a := z261.toInt) (b := z263.toInt) rfl rfl c264
          refine lv_iload_n hx hb dX12_nextOrder_31 rfl (lv_at hl 0 rfl) ?_
          refine lv_if_ge (tgt := 37) hx hb dX12_nextOrder_32 (by decide) (fun c265 => ?_) (fun c265 => ?_)
          · have c265 := k_le (a := 0) (b := x253.toInt) (by decide) rfl c265
            refine lv_iload_n hx hb dX12_nextOrder_37 rfl (lv_at hl 2 rfl) ?_
            refine lv_iconst (v := 1) hx hb dX12_nextOrder_38 (by decide) ?_
            refine lv_isub hx hb dX12_nextOrder_39 ?_
            refine lv_topi (fun z266 e_z266 => ?_)
            have t_z266 : z266.toInt = p1.toInt - ((1 : Int32)).toInt := by rw [e_z266]; exact fb_subI (by omega) (by omega)
            refine lv_istore_n (lv' := [(3, .int z266), (2, .int x253), (0, .ref h0), (1, .int p1)]) hx hb dX12_nextOrder_40 rfl hl (by decide) rfl (fun ls hl => ?_)
            have lp343 : ∀ (n345 : Nat) (x340 : Int32) (H : Heap) (locs : List Loc) (ls : Array Slot), 0 ≤ x340.toInt ∧ x340.toInt ≤ 5 → x253.toInt + 1 ≤ x340.toInt → x340.toInt ≤ p1.toInt - 1 → (x340.toInt - (-1)).toNat < n345 → va_P g.1 vwCl [(h0, .inr (12, [.int mthrown, .ref a1, .ref a2, .ref a3, .ref a4, .int mtaped, .ref a6, .int msize, .int mat, .int mfrom, .int mtoken, .int mvalue, .int mfaultKind, .int mfaultPlace, .ref a14, .ref a15, .int mgoal, .int mgoalDays, .int mgoalHearer, .ref a19, .ref a20, .int mleastOrder, .int mwordsMany, .ref a23, .ref a24, .ref a25, .ref a26, .ref a27, .ref a28])), (a19, .inl (g.2 0, 6, .inl morder))] H → va_D A [(h0, .inr (12, [.int mthrown, .ref a1, .ref a2, .ref a3, .ref a4, .int mtaped, .ref a6, .int msize, .int mat, .int mfrom, .int mtoken, .int mvalue, .int mfaultKind, .int mfaultPlace, .ref a14, .ref a15, .int mgoal, .int mgoalDays, .int mgoalHearer, .ref a19, .ref a20, .int mleastOrder, .int mwordsMany, .ref a23, .ref a24, .ref a25, .ref a26, .ref a27, .ref a28])), (a19, .inl (g.2 0, 6, .inl morder))] → va_S A s.heap H locs → lv_has ls 6 [(3, .int x340), (2, .int x253), (0, .ref h0), (1, .int p1)] → W p l e { frames := 1, cells := 0, slots := 0, locals := 23 } s m ([.ref h0, .int p1].toArray) below meth c H locs 0 0 (MQ below (QX (S := (Nat → Int32) × (Nat → Nat → Int32) × (Nat → Nat → Int64)) (fun u => some (.int (u.1 0))) (fun u => (0 ≤ (u.1 0).toInt ∧ (u.1 0).toInt ≤ 1) ∧ (odok p1 (u.2.1 0)) ∧ ((u.1 0).toInt = 1 → onum morder < onum (u.2.1 0))) g (fun u => [(h0, .inr (12, [.int mthrown, .ref a1, .ref a2, .ref a3, .ref a4, .int mtaped, .ref a6, .int msize, .int mat, .int mfrom, .int mtoken, .int mvalue, .int mfaultKind, .int mfaultPlace, .ref a14, .ref a15, .int mgoal, .int mgoalDays, .int mgoalHearer, .ref a19, .ref a20, .int mleastOrder, .int mwordsMany, .ref a23, .ref a24, .ref a25, .ref a26, .ref a27, .ref a28])), (a19, .inl (g.2 0, 6, .inl (u.2.1 0)))]) A) ([.ref h0, .int p1].toArray) s 0 0 A) (F0 m 41 ls []) := by
              intro n345
              induction n345 with
              | zero =>
                intro x340 H locs ls h_x340 hi341 hi342 hn346
                exact absurd hn346 (Nat.not_lt_zero _)
              | succ n345 ih344 =>
                intro x340 H locs ls h_x340 hi341 hi342 hn346 hP hD hS hl
                refine lv_aload_n hx hb dX12_nextOrder_41 rfl (lv_at hl 2 rfl) ?_
                refine g_get (C := RX12) (T := TX12) (N := 29) (ci := 12) (v := .ref a19) FC hKn hP i_X12 0 rfl rfl 19 (by decide) b_1023 rfl dX12_nextOrder_42 ?_
                refine lv_iload_n hx hb dX12_nextOrder_45 rfl (lv_at hl 0 rfl) ?_
                refine va_iald hx hb hKn.1 hP 1 0 rfl rfl (vp_in_iff.mpr ⟨by omega, by omega⟩) dX12_nextOrder_46 ?_
                refine lv_topi (fun z347 e_z347 => ?_)
                have k_z347_z263 : x340.toInt = z262.toInt → z347.toInt = z263.toInt := fun q => by rw [e_z347, e_z263, show x340 = z262 from Int32.toInt_inj.mp q]
                refine lv_aload_n hx hb dX12_nextOrder_47 rfl (lv_at hl 2 rfl) ?_
                refine g_get (C := RX12) (T := TX12) (N := 29) (ci := 12) (v := .ref a19) FC hKn hP i_X12 0 rfl rfl 19 (by decide) b_1023 rfl dX12_nextOrder_48 ?_
                refine lv_iload_n hx hb dX12_nextOrder_51 rfl (lv_at hl 1 rfl) ?_
                refine va_iald hx hb hKn.1 hP 1 0 rfl rfl (vp_in_iff.mpr ⟨by omega, by omega⟩) dX12_nextOrder_52 ?_
                refine tp_i (v := z261) e_z261.symm ?_
                refine lv_icmp_ge (tgt := 62) hx hb dX12_nextOrder_53 (by decide) (fun c348 => ?_) (fun c348 => ?_)
                · have c348 := k_le (a := z261.toInt) (b := z347.toInt) rfl rfl c348
                  refine lv_aload_n hx hb dX12_nextOrder_62 rfl (lv_at hl 2 rfl) ?_
                  refine lv_iload_n hx hb dX12_nextOrder_63 rfl (lv_at hl 1 rfl) ?_
                  refine lv_iload_n hx hb dX12_nextOrder_64 rfl (lv_at hl 0 rfl) ?_
                  refine call_V (As := [.int x253, .int x340]) (rest := []) (wr := []) FC hKn hZ (k_X12_swap l g h0 a1 a2 a3 a4 a6 a14 a15 a19 a20 a23 a24 a25 a26 a27 a28 mthrown mtaped msize mat mfrom mtoken mvalue mfaultKind mfaultPlace mgoal mgoalDays mgoalHearer mleastOrder mwordsMany morder x253 x340 (by omega) (by omega) (by omega) (by omega) (by omega) (by omega) (by omega) (by omega) (by omega) (by omega)) m_yX12_swap b_1024 (ci := 12) rfl rfl rfl hP hD hS hA [0, 1] [] rfl (by decide) rfl (by decide) (by decide) rfl hl.1 rfl (Nat.le_of_ble_eq_true rfl) dX12_nextOrder_65 ⟨(Nat.le_of_ble_eq_true rfl), (Nat.le_of_ble_eq_true rfl)⟩ ⟨(Nat.le_of_ble_eq_true rfl), (Nat.le_of_ble_eq_true rfl)⟩ (fun u349 H locs q350 hP hD hS => ?_)
                  have q350_0 : u349.2.1 0 = swp morder x253 x340 := q350
                  have hP : va_P g.1 vwCl [(h0, .inr (12, [.int mthrown, .ref a1, .ref a2, .ref a3, .ref a4, .int mtaped, .ref a6, .int msize, .int mat, .int mfrom, .int mtoken, .int mvalue, .int mfaultKind, .int mfaultPlace, .ref a14, .ref a15, .int mgoal, .int mgoalDays, .int mgoalHearer, .ref a19, .ref a20, .int mleastOrder, .int mwordsMany, .ref a23, .ref a24, .ref a25, .ref a26, .ref a27, .ref a28])), (a19, .inl (g.2 0, 6, .inl (u349.2.1 0)))] H := hP
                  have hD : va_D A [(h0, .inr (12, [.int mthrown, .ref a1, .ref a2, .ref a3, .ref a4, .int mtaped, .ref a6, .int msize, .int mat, .int mfrom, .int mtoken, .int mvalue, .int mfaultKind, .int mfaultPlace, .ref a14, .ref a15, .int mgoal, .int mgoalDays, .int mgoalHearer, .ref a19, .ref a20, .int mleastOrder, .int mwordsMany, .ref a23, .ref a24, .ref a25, .ref a26, .ref a27, .ref a28])), (a19, .inl (g.2 0, 6, .inl (u349.2.1 0)))] := hD
                  refine W.eq (g2 := F0 m 68 ls []) rfl ?_
                  refine lv_iload_n hx hb dX12_nextOrder_68 rfl (lv_at hl 1 rfl) ?_
                  refine lv_iconst (v := 1) hx hb dX12_nextOrder_69 (by decide) ?_
                  refine lv_iadd hx hb dX12_nextOrder_70 ?_
                  refine lv_topi (fun z351 e_z351 => ?_)
                  have t_z351 : z351.toInt = x253.toInt + ((1 : Int32)).toInt := by rw [e_z351]; exact fb_addI (by omega) (by omega)
                  refine lv_istore (lv' := [(4, .int z351), (3, .int x340), (2, .int x253), (0, .ref h0), (1, .int p1)]) hx hb dX12_nextOrder_71 hl (by decide) rfl (fun ls hl => ?_)
                  refine lv_iload_n hx hb dX12_nextOrder_73 rfl (lv_at hl 4 rfl) ?_
                  refine lv_iconst (v := 1) hx hb dX12_nextOrder_74 (by decide) ?_
                  refine lv_isub hx hb dX12_nextOrder_75 ?_
                  refine lv_topi (fun z352 e_z352 => ?_)
                  have t_z352 : z352.toInt = p1.toInt - ((1 : Int32)).toInt := by rw [e_z352]; exact fb_subI (by omega) (by omega)
                  refine lv_istore (lv' := [(5, .int z352), (4, .int z351), (3, .int x340), (2, .int x253), (0, .ref h0), (1, .int p1)]) hx hb dX12_nextOrder_76 hl (by decide) rfl (fun ls hl => ?_)
                  have lp373 : ∀ (n375 : Nat) (x366 : Int32) (x367 : Int32) (x368 : Nat → Int32) (H : Heap) (locs : List Loc) (ls : Array Slot), 0 ≤ x366.toInt ∧ x366.toInt ≤ 5 → 1 ≤ x367.toInt ∧ x367.toInt ≤ 6 → (odok p1 x368 ∧ gr morder x368 x253.toNatClampNeg) → x253.toInt + 1 ≤ x367.toInt → x366.toInt ≤ p1.toInt - 1 → x253.toInt ≤ x366.toInt → (5 - x367.toInt).toNat < n375 → va_P g.1 vwCl [(h0, .inr (12, [.int mthrown, .ref a1, .ref a2, .ref a3, .ref a4, .int mtaped, .ref a6, .int msize, .int mat, .int mfrom, .int mtoken, .int mvalue, .int mfaultKind, .int mfaultPlace, .ref a14, .ref a15, .int mgoal, .int mgoalDays, .int mgoalHearer, .ref a19, .ref a20, .int mleastOrder, .int mwordsMany, .ref a23, .ref a24, .ref a25, .ref a26, .ref a27, .ref a28])), (a19, .inl (g.2 0, 6, .inl x368))] H → va_D A [(h0, .inr (12, [.int mthrown, .ref a1, .ref a2, .ref a3, .ref a4, .int mtaped, .ref a6, .int msize, .int mat, .int mfrom, .int mtoken, .int mvalue, .int mfaultKind, .int mfaultPlace, .ref a14, .ref a15, .int mgoal, .int mgoalDays, .int mgoalHearer, .ref a19, .ref a20, .int mleastOrder, .int mwordsMany, .ref a23, .ref a24, .ref a25, .ref a26, .ref a27, .ref a28])), (a19, .inl (g.2 0, 6, .inl x368))] → va_S A s.heap H locs → lv_has ls 6 [(5, .int x366), (4, .int x367), (3, .int x340), (2, .int x253), (0, .ref h0), (1, .int p1)] → W p l e { frames := 1, cells := 0, slots := 0, locals := 23 } s m ([.ref h0, .int p1].toArray) below meth c H locs 0 0 (MQ below (QX (S := (Nat → Int32) × (Nat → Nat → Int32) × (Nat → Nat → Int64)) (fun u => some (.int (u.1 0))) (fun u => (0 ≤ (u.1 0).toInt ∧ (u.1 0).toInt ≤ 1) ∧ (odok p1 (u.2.1 0)) ∧ ((u.1 0).toInt = 1 → onum morder < onum (u.2.1 0))) g (fun u => [(h0, .inr (12, [.int mthrown, .ref a1, .ref a2, .ref a3, .ref a4, .int mtaped, .ref a6, .int msize, .int mat, .int mfrom, .int mtoken, .int mvalue, .int mfaultKind, .int mfaultPlace, .ref a14, .ref a15, .int mgoal, .int mgoalDays, .int mgoalHearer, .ref a19, .ref a20, .int mleastOrder, .int mwordsMany, .ref a23, .ref a24, .ref a25, .ref a26, .ref a27, .ref a28])), (a19, .inl (g.2 0, 6, .inl (u.2.1 0)))]) A) ([.ref h0, .int p1].toArray) s 0 0 A) (F0 m 78 ls []) := by
                    intro n375
                    induction n375 with
                    | zero =>
                      intro x366 x367 x368 H locs ls h_x366 h_x367 hi369 hi370 hi371 hi372 hn376
                      exact absurd hn376 (Nat.not_lt_zero _)
                    | succ n375 ih374 =>
                      intro x366 x367 x368 H locs ls h_x366 h_x367 hi369 hi370 hi371 hi372 hn376 hP hD hS hl
                      refine lv_iload hx hb dX12_nextOrder_78 (lv_at hl 1 rfl) ?_
                      refine lv_iload hx hb dX12_nextOrder_80 (lv_at hl 0 rfl) ?_
                      refine lv_icmp_ge (tgt := 102) hx hb dX12_nextOrder_82 (by decide) (fun c377 => ?_) (fun c377 => ?_)
                      · have c377 := k_le (a := x366.toInt) (b := x367.toInt) rfl rfl c377
                        refine lv_iconst (v := 1) hx hb dX12_nextOrder_102 (by decide) ?_
                        exact rt_z FX rfl ((fun k => match k with | 0 => (1 : Int32) | _ => 0), (fun k => match k with | 0 => x368 | _ => fun _ => 0), (fun _ => fun _ => 0)) rfl ⟨(show 0 ≤ ((1 : Int32)).toInt ∧ ((1 : Int32)).toInt ≤ 1 by decide), (show odok p1 (x368) from hi369.1), (show ((1 : Int32)).toInt = 1 → onum morder < onum (x368) from (fun _ => onum_lt (by have := cln (x := x253) (by omega); omega) hi369.2))⟩ (hP.sub [0, 1] rfl) (hD.sub [0, 1] (by decide) rfl) hS (Nat.le_of_ble_eq_true rfl) (Nat.le_of_ble_eq_true rfl) dX12_nextOrder_103
                      · have c377 := k_nle (a := x366.toInt) (b := x367.toInt) rfl rfl c377
                        refine lv_aload_n hx hb dX12_nextOrder_85 rfl (lv_at hl 4 rfl) ?_
                        refine lv_iload hx hb dX12_nextOrder_86 (lv_at hl 1 rfl) ?_
                        refine lv_iload hx hb dX12_nextOrder_88 (lv_at hl 0 rfl) ?_
                        refine call_V (As := [.int x367, .int x366]) (rest := []) (wr := []) FC hKn hZ (k_X12_swap l g h0 a1 a2 a3 a4 a6 a14 a15 a19 a20 a23 a24 a25 a26 a27 a28 mthrown mtaped msize mat mfrom mtoken mvalue mfaultKind mfaultPlace mgoal mgoalDays mgoalHearer mleastOrder mwordsMany x368 x367 x366 (by omega) (by omega) (by omega) (by omega) (by omega) (by omega) (by omega) (by omega) (by omega) (by omega)) m_yX12_swap b_1024 (ci := 12) rfl rfl rfl hP hD hS hA [0, 1] [] rfl (by decide) rfl (by decide) (by decide) rfl hl.1 rfl (Nat.le_of_ble_eq_true rfl) dX12_nextOrder_90 ⟨(Nat.le_of_ble_eq_true rfl), (Nat.le_of_ble_eq_true rfl)⟩ ⟨(Nat.le_of_ble_eq_true rfl), (Nat.le_of_ble_eq_true rfl)⟩ (fun u378 H locs q379 hP hD hS => ?_)
                        have q379_0 : u378.2.1 0 = swp x368 x367 x366 := q379
                        have hP : va_P g.1 vwCl [(h0, .inr (12, [.int mthrown, .ref a1, .ref a2, .ref a3, .ref a4, .int mtaped, .ref a6, .int msize, .int mat, .int mfrom, .int mtoken, .int mvalue, .int mfaultKind, .int mfaultPlace, .ref a14, .ref a15, .int mgoal, .int mgoalDays, .int mgoalHearer, .ref a19, .ref a20, .int mleastOrder, .int mwordsMany, .ref a23, .ref a24, .ref a25, .ref a26, .ref a27, .ref a28])), (a19, .inl (g.2 0, 6, .inl (u378.2.1 0)))] H := hP
                        have hD : va_D A [(h0, .inr (12, [.int mthrown, .ref a1, .ref a2, .ref a3, .ref a4, .int mtaped, .ref a6, .int msize, .int mat, .int mfrom, .int mtoken, .int mvalue, .int mfaultKind, .int mfaultPlace, .ref a14, .ref a15, .int mgoal, .int mgoalDays, .int mgoalHearer, .ref a19, .ref a20, .int mleastOrder, .int mwordsMany, .ref a23, .ref a24, .ref a25, .ref a26, .ref a27, .ref a28])), (a19, .inl (g.2 0, 6, .inl (u378.2.1 0)))] := hD
                        refine W.eq (g2 := F0 m 93 ls []) rfl ?_
                        obtain ⟨z380, e_z380⟩ : ∃ y : Int32, y = x367 + 1 := ⟨_, rfl⟩
                        have t_z380 : z380.toInt = x367.toInt + 1 := by rw [e_z380]; exact addk (by decide) (by omega) (by omega)
                        refine lv_iinc (v := z380) (lv' := [(4, .int z380), (5, .int x366), (3, .int x340), (2, .int x253), (0, .ref h0), (1, .int p1)]) hx hb dX12_nextOrder_93 hl (k := 1) rfl (by rw [e_z380]; rfl) (by decide) rfl (fun ls hl => ?_)
                        obtain ⟨z381, e_z381⟩ : ∃ y : Int32, y = x366 + (-1) := ⟨_, rfl⟩
                        have t_z381 : z381.toInt = x366.toInt + (-1) := by rw [e_z381]; exact addk (by decide) (by omega) (by omega)
                        refine lv_iinc (v := z381) (lv' := [(5, .int z381), (4, .int z380), (3, .int x340), (2, .int x253), (0, .ref h0), (1, .int p1)]) hx hb dX12_nextOrder_96 hl (k := 1) rfl (by rw [e_z381]; rfl) (by decide) rfl (fun ls hl => ?_)
                        refine lv_goto (tgt := 78) hx hb dX12_nextOrder_99 (by decide) ?_
                        exact ih374 z381 z380 (u378.2.1 0) _ _ ls (by omega) (by omega) (by rw [q379_0]; exact ⟨od_sw hi369.1 (by omega) (by omega) (by omega) (by omega), grw_s hi369.2 (by rw [cln (by omega)]; omega) (by rw [cln (by omega)]; omega)⟩) (by omega) (by omega) (by omega) (by omega) hP hD hS (lv_sub hl [0, 1, 2, 3, 4, 5] rfl)
                  exact lp373 _ z352 z351 (u349.2.1 0) _ _ ls (by omega) (by omega) (by rw [q350_0]; exact ⟨od_sw hod (by omega) (by omega) (by omega) (by omega), grw_0 hod (by omega) (by omega) (by omega) (by omega) (by rw [← e_z261, ← e_z347]; omega)⟩) (by omega) (by omega) (by omega) (Nat.lt_succ_self _) hP hD hS (lv_sub hl [0, 1, 2, 3, 4, 5] rfl)
                · have c348 := k_nle (a := z261.toInt) (b := z347.toInt) rfl rfl c348
                  obtain ⟨z382, e_z382⟩ : ∃ y : Int32, y = x340 + (-1) := ⟨_, rfl⟩
                  have t_z382 : z382.toInt = x340.toInt + (-1) := by rw [e_z382]; exact addk (by decide) (by omega) (by omega)
                  refine lv_iinc (v := z382) (lv' := [(3, .int z382), (2, .int x253), (0, .ref h0), (1, .int p1)]) hx hb dX12_nextOrder_56 hl (k := 0) rfl (by rw [e_z382]; rfl) (by decide) rfl (fun ls hl => ?_)
                  refine lv_goto (tgt := 41) hx hb dX12_nextOrder_59 (by decide) ?_
                  exact ih344 z382 _ _ ls (by omega) (by omega) (by omega) (by omega) hP hD hS (lv_sub hl [0, 1, 2, 3] rfl)
            exact lp343 _ z266 _ _ ls (by omega) (by omega) (by omega) (Nat.lt_succ_self _) hP hD hS (lv_sub hl [0, 1, 2, 3] rfl)
          · have c265 := k_nle (a := 0) (b := x253.toInt) (by decide) rfl c265
            exfalso; omega
        · have c264 := k_nle (a := z261.toInt) (b := z263.toInt) rfl rfl c264
          obtain ⟨z383, e_z383⟩ : ∃ y : Int32, y = x253 + (-1) := ⟨_, rfl⟩
          have t_z383 : z383.toInt = x253.toInt + (-1) := by rw [e_z383]; exact addk (by decide) (by omega) (by omega)
          refine lv_iinc (v := z383) (lv' := [(2, .int z383), (0, .ref h0), (1, .int p1)]) hx hb dX12_nextOrder_25 hl (k := 0) rfl (by rw [e_z383]; rfl) (by decide) rfl (fun ls hl => ?_)
          refine lv_goto (tgt := 4) hx hb dX12_nextOrder_28 (by decide) ?_
          exact ih256 z383 _ _ ls (by omega) (by omega) (by omega) hP hD hS (lv_sub hl [0, 1, 2] rfl)
  exact lp255 _ z1 _ _ ls (by omega) (by omega) (Nat.lt_succ_self _) hP hD hS (lv_sub hl [0, 1, 2] rfl)
set_option maxRecDepth 100000 in
set_option maxHeartbeats 4000000 in
theorem k_X12_leftInOrder (l : Launch) (g : GG) (h0 : Nat) (a1 : Nat) (a2 : Nat) (a3 : Nat) (a4 : Nat) (a6 : Nat) (a14 : Nat) (a15 : Nat) (a19 : Nat) (a20 : Nat) (a23 : Nat) (a24 : Nat) (a25 : Nat) (a26 : Nat) (a27 : Nat) (a28 : Nat) (mthrown : Int32) (mtaped : Int32) (msize : Int32) (mat : Int32) (mfrom : Int32) (mtoken : Int32) (mvalue : Int32) (mfaultKind : Int32) (mfaultPlace : Int32) (mgoal : Int32) (mgoalDays : Int32) (mgoalHearer : Int32) (mleastOrder : Int32) (mwordsMany : Int32) (mworld : Nat → Int32) (mnumbers : Nat → Int64) (mmany : Nat → Int32) (morder : Nat → Int32) (p1 : Int32) (p2 : Int32) (i_mtaped : 0 ≤ mtaped.toInt ∧ mtaped.toInt ≤ 900) (i_msize : 0 ≤ msize.toInt ∧ msize.toInt ≤ 900) (i_mat : 0 ≤ mat.toInt ∧ mat.toInt ≤ 900) (i_mfrom : 0 ≤ mfrom.toInt ∧ mfrom.toInt ≤ 900) (i_mtoken : 0 ≤ mtoken.toInt ∧ mtoken.toInt ≤ 4) (i_mvalue : 0 ≤ mvalue.toInt ∧ mvalue.toInt ≤ 99999) (i_mgoalHearer : 0 ≤ mgoalHearer.toInt ∧ mgoalHearer.toInt ≤ 3) (i_mwordsMany : 0 ≤ mwordsMany.toInt ∧ mwordsMany.toInt ≤ 10) (i_mworld : wod mworld) (i_mmany : ab mmany 4 (-1) 60) (i_p2 : 0 ≤ p2.toInt ∧ p2.toInt ≤ 3) (hw : wkok mworld mnumbers mmany p1) (hm6 : (mmany p1.toNatClampNeg).toInt ≤ 6) (hod : odok (mmany p1.toNatClampNeg) morder) : Ct l g yX12_leftInOrder cX12_leftInOrder 7 (some .int) { frames := 4, cells := 0, slots := 0, locals := 95 } [.ref h0, .int p1, .int p2] [(h0, .inr (12, [.int mthrown, .ref a1, .ref a2, .ref a3, .ref a4, .int mtaped, .ref a6, .int msize, .int mat, .int mfrom, .int mtoken, .int mvalue, .int mfaultKind, .int mfaultPlace, .ref a14, .ref a15, .int mgoal, .int mgoalDays, .int mgoalHearer, .ref a19, .ref a20, .int mleastOrder, .int mwordsMany, .ref a23, .ref a24, .ref a25, .ref a26, .ref a27, .ref a28])), (a1, .inl (g.2 0, 225, .inl mworld)), (a27, .inl (g.2 3, 240, .inr (.inl mnumbers))), (a25, .inl (g.2 0, 4, .inl mmany)), (a19, .inl (g.2 0, 6, .inl morder))] (S := (Nat → Int32) × (Nat → Nat → Int32) × (Nat → Nat → Int64)) (fun u => some (.int (u.1 0))) (fun u => True) (fun u => [(h0, .inr (12, [.int mthrown, .ref a1, .ref a2, .ref a3, .ref a4, .int mtaped, .ref a6, .int msize, .int mat, .int mfrom, .int mtoken, .int mvalue, .int mfaultKind, .int mfaultPlace, .ref a14, .ref a15, .int mgoal, .int mgoalDays, .int mgoalHearer, .ref a19, .ref a20, .int mleastOrder, .int mwordsMany, .ref a23, .ref a24, .ref a25, .ref a26, .ref a27, .ref a28])), (a1, .inl (g.2 0, 225, .inl mworld)), (a27, .inl (g.2 3, 240, .inr (.inl mnumbers))), (a25, .inl (g.2 0, 4, .inl mmany)), (a19, .inl (g.2 0, 6, .inl morder))]) := by
  refine Ct.of (by decide) (Nat.le_of_ble_eq_true rfl) ?_
  intro p e s m below meth c A ls FX hP hD hS hl
  obtain ⟨FC, hr, hlk, hKn, hA, hnm, hZ⟩ := id FX
  have FC : CallFix p m c cX12_leftInOrder 7 s _ BIG RX12 := FC
  obtain ⟨hx, hb, hml, hown, hB⟩ := id FC
  have hl : lv_has ls 7 [(0, .ref h0), (1, .int p1), (2, .int p2)] := hl
  have hwb := hw.2.1
  have hwa := hw.1
  refine lv_aload_n hx hb dX12_leftInOrder_0 rfl (lv_at hl 0 rfl) ?_
  refine call_V (As := []) (rest := []) (wr := [(a27, .inl (g.2 3, 240, .inr (.inl mnumbers))), (a25, .inl (g.2 0, 4, .inl mmany)), (a19, .inl (g.2 0, 6, .inl morder))]) FC hKn hZ (k_X12_allStates l g h0 a1 a2 a3 a4 a6 a14 a15 a19 a20 a23 a24 a25 a26 a27 a28 mthrown mtaped msize mat mfrom mtoken mvalue mfaultKind mfaultPlace mgoal mgoalDays mgoalHearer mleastOrder mwordsMany mworld (by omega) (by omega) (by omega) (by omega) (by omega) (by omega) (by omega) (by omega) i_mworld) m_yX12_allStates b_806 (ci := 12) rfl rfl rfl hP hD hS hA [0, 1] [2, 3, 4] rfl (by decide) rfl (by decide) (by decide) rfl hl.1 rfl (Nat.le_of_ble_eq_true rfl) dX12_leftInOrder_1 ⟨(Nat.le_of_ble_eq_true rfl), (Nat.le_of_ble_eq_true rfl)⟩ ⟨(Nat.le_of_ble_eq_true rfl), (Nat.le_of_ble_eq_true rfl)⟩ (fun u1 H locs q2 hP hD hS => ?_)
  obtain ⟨q2_0, q2_1, q2_2⟩ := q2
  have hP : va_P g.1 vwCl [(a27, .inl (g.2 3, 240, .inr (.inl mnumbers))), (a25, .inl (g.2 0, 4, .inl mmany)), (a19, .inl (g.2 0, 6, .inl morder)), (h0, .inr (12, [.int mthrown, .ref a1, .ref a2, .ref a3, .ref a4, .int mtaped, .ref a6, .int msize, .int mat, .int mfrom, .int mtoken, .int mvalue, .int mfaultKind, .int mfaultPlace, .ref a14, .ref a15, .int mgoal, .int mgoalDays, .int mgoalHearer, .ref a19, .ref a20, .int mleastOrder, .int mwordsMany, .ref a23, .ref a24, .ref a25, .ref a26, .ref a27, .ref a28])), (a1, .inl (g.2 0, 225, .inl mworld))] H := hP
  have hD : va_D A [(a27, .inl (g.2 3, 240, .inr (.inl mnumbers))), (a25, .inl (g.2 0, 4, .inl mmany)), (a19, .inl (g.2 0, 6, .inl morder)), (h0, .inr (12, [.int mthrown, .ref a1, .ref a2, .ref a3, .ref a4, .int mtaped, .ref a6, .int msize, .int mat, .int mfrom, .int mtoken, .int mvalue, .int mfaultKind, .int mfaultPlace, .ref a14, .ref a15, .int mgoal, .int mgoalDays, .int mgoalHearer, .ref a19, .ref a20, .int mleastOrder, .int mwordsMany, .ref a23, .ref a24, .ref a25, .ref a26, .ref a27, .ref a28])), (a1, .inl (g.2 0, 225, .inl mworld))] := hD
  refine W.eq (g2 := F0 m 4 ls [.int (u1.1 0)]) rfl ?_
  rw [q2_1] at q2_0
  rw [q2_1] at q2_2
  refine tp_i (v := asF mworld) q2_1 ?_
  refine lv_istore_n (lv' := [(3, .int (asF mworld)), (0, .ref h0), (1, .int p1), (2, .int p2)]) hx hb dX12_leftInOrder_4 rfl hl (by decide) rfl (fun ls hl => ?_)
  refine lv_iconst (v := 0) hx hb dX12_leftInOrder_5 (by decide) ?_
  refine lv_istore (lv' := [(4, .int 0), (3, .int (asF mworld)), (0, .ref h0), (1, .int p1), (2, .int p2)]) hx hb dX12_leftInOrder_6 hl (by decide) rfl (fun ls hl => ?_)
  refine lv_iconst (v := 0) hx hb dX12_leftInOrder_8 (by decide) ?_
  refine lv_istore (lv' := [(5, .int 0), (4, .int 0), (3, .int (asF mworld)), (0, .ref h0), (1, .int p1), (2, .int p2)]) hx hb dX12_leftInOrder_9 hl (by decide) rfl (fun ls hl => ?_)
  have lp139 : ∀ (n141 : Nat) (x136 : Int32) (x137 : Int32) (x138 : Int32) (H : Heap) (locs : List Loc) (ls : Array Slot), 0 ≤ x136.toInt ∧ x136.toInt ≤ 6 → 1 ≤ x138.toInt ∧ x138.toInt ≤ 255 → (6 - x136.toInt).toNat < n141 → va_P g.1 vwCl [(a27, .inl (g.2 3, 240, .inr (.inl mnumbers))), (a25, .inl (g.2 0, 4, .inl mmany)), (a19, .inl (g.2 0, 6, .inl morder)), (h0, .inr (12, [.int mthrown, .ref a1, .ref a2, .ref a3, .ref a4, .int mtaped, .ref a6, .int msize, .int mat, .int mfrom, .int mtoken, .int mvalue, .int mfaultKind, .int mfaultPlace, .ref a14, .ref a15, .int mgoal, .int mgoalDays, .int mgoalHearer, .ref a19, .ref a20, .int mleastOrder, .int mwordsMany, .ref a23, .ref a24, .ref a25, .ref a26, .ref a27, .ref a28])), (a1, .inl (g.2 0, 225, .inl mworld))] H → va_D A [(a27, .inl (g.2 3, 240, .inr (.inl mnumbers))), (a25, .inl (g.2 0, 4, .inl mmany)), (a19, .inl (g.2 0, 6, .inl morder)), (h0, .inr (12, [.int mthrown, .ref a1, .ref a2, .ref a3, .ref a4, .int mtaped, .ref a6, .int msize, .int mat, .int mfrom, .int mtoken, .int mvalue, .int mfaultKind, .int mfaultPlace, .ref a14, .ref a15, .int mgoal, .int mgoalDays, .int mgoalHearer, .ref a19, .ref a20, .int mleastOrder, .int mwordsMany, .ref a23, .ref a24, .ref a25, .ref a26, .ref a27, .ref a28])), (a1, .inl (g.2 0, 225, .inl mworld))] → va_S A s.heap H locs → lv_has ls 7 [(5, .int x136), (4, .int x137), (3, .int x138), (0, .ref h0), (1, .int p1), (2, .int p2)] → W p l e { frames := 4, cells := 0, slots := 0, locals := 95 } s m ([.ref h0, .int p1, .int p2].toArray) below meth c H locs 0 0 (MQ below (QX (S := (Nat → Int32) × (Nat → Nat → Int32) × (Nat → Nat → Int64)) (fun u => some (.int (u.1 0))) (fun u => True) g (fun u => [(h0, .inr (12, [.int mthrown, .ref a1, .ref a2, .ref a3, .ref a4, .int mtaped, .ref a6, .int msize, .int mat, .int mfrom, .int mtoken, .int mvalue, .int mfaultKind, .int mfaultPlace, .ref a14, .ref a15, .int mgoal, .int mgoalDays, .int mgoalHearer, .ref a19, .ref a20, .int mleastOrder, .int mwordsMany, .ref a23, .ref a24, .ref a25, .ref a26, .ref a27, .ref a28])), (a1, .inl (g.2 0, 225, .inl mworld)), (a27, .inl (g.2 3, 240, .inr (.inl mnumbers))), (a25, .inl (g.2 0, 4, .inl mmany)), (a19, .inl (g.2 0, 6, .inl morder))]) A) ([.ref h0, .int p1, .int p2].toArray) s 0 0 A) (F0 m 11 ls []) := by
    intro n141
    induction n141 with
    | zero =>
      intro x136 x137 x138 H locs ls h_x136 h_x138 hn142
      exact absurd hn142 (Nat.not_lt_zero _)
    | succ n141 ih140 =>
      intro x136 x137 x138 H locs ls h_x136 h_x138 hn142 hP hD hS hl
      refine lv_iload hx hb dX12_leftInOrder_11 (lv_at hl 0 rfl) ?_
      refine lv_aload_n hx hb dX12_leftInOrder_13 rfl (lv_at hl 3 rfl) ?_
      refine g_get (C := RX12) (T := TX12) (N := 29) (ci := 12) (v := .ref a25) FC hKn hP i_X12 3 rfl rfl 25 (by decide) b_934 rfl dX12_leftInOrder_14 ?_
      refine lv_iload_n hx hb dX12_leftInOrder_17 rfl (lv_at hl 4 rfl) ?_
      refine va_iald hx hb hKn.1 hP 1 0 rfl rfl (vp_in_iff.mpr ⟨by omega, by omega⟩) dX12_leftInOrder_18 ?_
      refine lv_topi (fun z143 e_z143 => ?_)
      have t_z143 : -1 ≤ z143.toInt ∧ z143.toInt ≤ 60 := by rw [e_z143]; exact i_mmany _ (clt (by omega) (by omega))
      have w_z143 : 0 ≤ z143.toInt ∧ z143.toInt ≤ 6 := by rw [e_z143]; omega
      have q_z143 : z143.toInt = (mmany p1.toNatClampNeg).toInt := by rw [e_z143]
      refine lv_icmp_ge (tgt := 75) hx hb dX12_leftInOrder_19 (by decide) (fun c144 => ?_) (fun c144 => ?_)
      · have c144 := k_le (a := z143.toInt) (b := x136.toInt) rfl rfl c144
        refine lv_iload hx hb dX12_leftInOrder_75 (lv_at hl 1 rfl) ?_
        exact rt_i FX ((fun k => match k with | 0 => x137 | _ => 0), (fun _ => fun _ => 0), (fun _ => fun _ => 0)) rfl trivial (hP.sub [3, 4, 0, 1, 2] rfl) (hD.sub [3, 4, 0, 1, 2] (by decide) rfl) hS (Nat.le_of_ble_eq_true rfl) (Nat.le_of_ble_eq_true rfl) dX12_leftInOrder_77
      · have c144 := k_nle (a := z143.toInt) (b := x136.toInt) rfl rfl c144
        refine lv_aload_n hx hb dX12_leftInOrder_22 rfl (lv_at hl 3 rfl) ?_
        refine lv_iload_n hx hb dX12_leftInOrder_23 rfl (lv_at hl 4 rfl) ?_
        refine lv_aload_n hx hb dX12_leftInOrder_24 rfl (lv_at hl 3 rfl) ?_
        refine g_get (C := RX12) (T := TX12) (N := 29) (ci := 12) (v := .ref a19) FC hKn hP i_X12 3 rfl rfl 19 (by decide) b_1023 rfl dX12_leftInOrder_25 ?_
        refine lv_iload hx hb dX12_leftInOrder_28 (lv_at hl 0 rfl) ?_
        refine va_iald hx hb hKn.1 hP 2 0 rfl rfl (vp_in_iff.mpr ⟨by omega, by omega⟩) dX12_leftInOrder_30 ?_
        refine lv_topi (fun z145 e_z145 => ?_)
        have o_z145 := od_r hod (x := x136) (by omega) (by omega)
        rw [← e_z145] at o_z145
        refine call_V (As := [.int p1, .int z145]) (rest := []) (wr := [(a19, .inl (g.2 0, 6, .inl morder))]) FC hKn hZ (k_X12_toldAt l g h0 a1 a2 a3 a4 a6 a14 a15 a19 a20 a23 a24 a25 a26 a27 a28 mthrown mtaped msize mat mfrom mtoken mvalue mfaultKind mfaultPlace mgoal mgoalDays mgoalHearer mleastOrder mwordsMany mworld mnumbers mmany p1 z145 (by omega) (by omega) (by omega) (by omega) (by omega) (by omega) (by omega) (by omega) i_mworld i_mmany (by assumption) (by omega) (by omega)) m_yX12_toldAt b_941 (ci := 12) rfl rfl rfl hP hD hS hA [3, 4, 0, 1] [2] rfl (by decide) rfl (by decide) (by decide) rfl hl.1 rfl (Nat.le_of_ble_eq_true rfl) dX12_leftInOrder_31 ⟨(Nat.le_of_ble_eq_true rfl), (Nat.le_of_ble_eq_true rfl)⟩ ⟨(Nat.le_of_ble_eq_true rfl), (Nat.le_of_ble_eq_true rfl)⟩ (fun u146 H locs q147 hP hD hS => ?_)
        obtain ⟨q147_0, q147_1, q147_2⟩ := q147
        have hP : va_P g.1 vwCl [(a19, .inl (g.2 0, 6, .inl morder)), (h0, .inr (12, [.int mthrown, .ref a1, .ref a2, .ref a3, .ref a4, .int mtaped, .ref a6, .int msize, .int mat, .int mfrom, .int mtoken, .int mvalue, .int mfaultKind, .int mfaultPlace, .ref a14, .ref a15, .int mgoal, .int mgoalDays, .int mgoalHearer, .ref a19, .ref a20, .int mleastOrder, .int mwordsMany, .ref a23, .ref a24, .ref a25, .ref a26, .ref a27, .ref a28])), (a1, .inl (g.2 0, 225, .inl mworld)), (a27, .inl (g.2 3, 240, .inr (.inl mnumbers))), (a25, .inl (g.2 0, 4, .inl mmany))] H := hP
        have hD : va_D A [(a19, .inl (g.2 0, 6, .inl morder)), (h0, .inr (12, [.int mthrown, .ref a1, .ref a2, .ref a3, .ref a4, .int mtaped, .ref a6, .int msize, .int mat, .int mfrom, .int mtoken, .int mvalue, .int mfaultKind, .int mfaultPlace, .ref a14, .ref a15, .int mgoal, .int mgoalDays, .int mgoalHearer, .ref a19, .ref a20, .int mleastOrder, .int mwordsMany, .ref a23, .ref a24, .ref a25, .ref a26, .ref a27, .ref a28])), (a1, .inl (g.2 0, 225, .inl mworld)), (a27, .inl (g.2 3, 240, .inr (.inl mnumbers))), (a25, .inl (g.2 0, 4, .inl mmany))] := hD
        refine W.eq (g2 := F0 m 34 ls [.int (u146.1 0)]) rfl ?_
        rw [q147_1] at q147_0
        rw [q147_1] at q147_2
        refine tp_i (v := tdF mnumbers p1 z145) q147_1 ?_
        refine lv_istore (lv' := [(6, .int (tdF mnumbers p1 z145)), (5, .int x136), (4, .int x137), (3, .int x138), (0, .ref h0), (1, .int p1), (2, .int p2)]) hx hb dX12_leftInOrder_34 hl (by decide) rfl (fun ls hl => ?_)
        refine lv_iload hx hb dX12_leftInOrder_36 (lv_at hl 2 rfl) ?_
        refine lv_aload_n hx hb dX12_leftInOrder_38 rfl (lv_at hl 4 rfl) ?_
        refine lv_aload_n hx hb dX12_leftInOrder_39 rfl (lv_at hl 4 rfl) ?_
        refine lv_iload_n hx hb dX12_leftInOrder_40 rfl (lv_at hl 6 rfl) ?_
        refine lv_iload_n hx hb dX12_leftInOrder_41 rfl (lv_at hl 3 rfl) ?_
        refine lv_iload hx hb dX12_leftInOrder_42 (lv_at hl 0 rfl) ?_
        refine call_V (As := [.int p2, .int x138, .int (tdF mnumbers p1 z145)]) (rest := [.ref h0, .int x137]) (wr := [(a19, .inl (g.2 0, 6, .inl morder)), (a27, .inl (g.2 3, 240, .inr (.inl mnumbers))), (a25, .inl (g.2 0, 4, .inl mmany))]) FC hKn hZ (k_X12_hurtOf l g h0 a1 a2 a3 a4 a6 a14 a15 a19 a20 a23 a24 a25 a26 a27 a28 mthrown mtaped msize mat mfrom mtoken mvalue mfaultKind mfaultPlace mgoal mgoalDays mgoalHearer mleastOrder mwordsMany mworld p2 x138 (tdF mnumbers p1 z145) (by omega) (by omega) (by omega) (by omega) (by omega) (by omega) (by omega) (by omega) i_mworld (by omega) (by omega) (by omega) (by omega)) m_yX12_hurtOf b_894 (ci := 12) rfl rfl rfl hP hD hS hA [1, 2] [0, 3, 4] rfl (by decide) rfl (by decide) (by decide) rfl hl.1 rfl (Nat.le_of_ble_eq_true rfl) dX12_leftInOrder_44 ⟨(Nat.le_of_ble_eq_true rfl), (Nat.le_of_ble_eq_true rfl)⟩ ⟨(Nat.le_of_ble_eq_true rfl), (Nat.le_of_ble_eq_true rfl)⟩ (fun u148 H locs q149 hP hD hS => ?_)
        have hP : va_P g.1 vwCl [(a19, .inl (g.2 0, 6, .inl morder)), (a27, .inl (g.2 3, 240, .inr (.inl mnumbers))), (a25, .inl (g.2 0, 4, .inl mmany)), (h0, .inr (12, [.int mthrown, .ref a1, .ref a2, .ref a3, .ref a4, .int mtaped, .ref a6, .int msize, .int mat, .int mfrom, .int mtoken, .int mvalue, .int mfaultKind, .int mfaultPlace, .ref a14, .ref a15, .int mgoal, .int mgoalDays, .int mgoalHearer, .ref a19, .ref a20, .int mleastOrder, .int mwordsMany, .ref a23, .ref a24, .ref a25, .ref a26, .ref a27, .ref a28])), (a1, .inl (g.2 0, 225, .inl mworld))] H := hP
        have hD : va_D A [(a19, .inl (g.2 0, 6, .inl morder)), (a27, .inl (g.2 3, 240, .inr (.inl mnumbers))), (a25, .inl (g.2 0, 4, .inl mmany)), (h0, .inr (12, [.int mthrown, .ref a1, .ref a2, .ref a3, .ref a4, .int mtaped, .ref a6, .int msize, .int mat, .int mfrom, .int mtoken, .int mvalue, .int mfaultKind, .int mfaultPlace, .ref a14, .ref a15, .int mgoal, .int mgoalDays, .int mgoalHearer, .ref a19, .ref a20, .int mleastOrder, .int mwordsMany, .ref a23, .ref a24, .ref a25, .ref a26, .ref a27, .ref a28])), (a1, .inl (g.2 0, 225, .inl mworld))] := hD
        refine W.eq (g2 := F0 m 47 ls [.int (u148.1 0), .ref h0, .int x137]) rfl ?_
        refine lv_iload hx hb dX12_leftInOrder_47 (lv_at hl 1 rfl) ?_
        refine lv_aload_n hx hb dX12_leftInOrder_49 rfl (lv_at hl 4 rfl) ?_
        refine g_get (C := RX12) (T := TX12) (N := 29) (ci := 12) (v := .ref a1) FC hKn hP i_X12 3 rfl rfl 1 (by decide) b_801 rfl dX12_leftInOrder_50 ?_
        refine lv_iconst (v := 2) hx hb dX12_leftInOrder_53 (by decide) ?_
        refine va_iald hx hb hKn.1 hP 4 0 rfl rfl (by unfold vp_in; decide) dX12_leftInOrder_54 ?_
        have kc2 : (2 : Int32).toInt = 2 := by decide
        refine lv_topi (fun z150 e_z150 => ?_)
        have t_z150 : 0 ≤ z150.toInt ∧ z150.toInt ≤ 10 := by rw [e_z150]; exact wk_2 i_mworld.1
        have q_z150 : z150.toInt = (mworld 2).toInt := by rw [e_z150]; rfl
        refine call_V (As := [.int (u148.1 0), .int x136, .int z150]) (rest := [.int x137]) (wr := [(a19, .inl (g.2 0, 6, .inl morder)), (a27, .inl (g.2 3, 240, .inr (.inl mnumbers))), (a25, .inl (g.2 0, 4, .inl mmany))]) FC hKn hZ (k_X12_leftOf l g h0 a1 a2 a3 a4 a6 a14 a15 a19 a20 a23 a24 a25 a26 a27 a28 mthrown mtaped msize mat mfrom mtoken mvalue mfaultKind mfaultPlace mgoal mgoalDays mgoalHearer mleastOrder mwordsMany mworld (u148.1 0) x136 z150 (by omega) (by omega) (by omega) (by omega) (by omega) (by omega) (by omega) (by omega) i_mworld) m_yX12_leftOf b_942 (ci := 12) rfl rfl rfl hP hD hS hA [3, 4] [0, 1, 2] rfl (by decide) rfl (by decide) (by decide) rfl hl.1 rfl (Nat.le_of_ble_eq_true rfl) dX12_leftInOrder_55 ⟨(Nat.le_of_ble_eq_true rfl), (Nat.le_of_ble_eq_true rfl)⟩ ⟨(Nat.le_of_ble_eq_true rfl), (Nat.le_of_ble_eq_true rfl)⟩ (fun u151 H locs q152 hP hD hS => ?_)
        have hP : va_P g.1 vwCl [(a19, .inl (g.2 0, 6, .inl morder)), (a27, .inl (g.2 3, 240, .inr (.inl mnumbers))), (a25, .inl (g.2 0, 4, .inl mmany)), (h0, .inr (12, [.int mthrown, .ref a1, .ref a2, .ref a3, .ref a4, .int mtaped, .ref a6, .int msize, .int mat, .int mfrom, .int mtoken, .int mvalue, .int mfaultKind, .int mfaultPlace, .ref a14, .ref a15, .int mgoal, .int mgoalDays, .int mgoalHearer, .ref a19, .ref a20, .int mleastOrder, .int mwordsMany, .ref a23, .ref a24, .ref a25, .ref a26, .ref a27, .ref a28])), (a1, .inl (g.2 0, 225, .inl mworld))] H := hP
        have hD : va_D A [(a19, .inl (g.2 0, 6, .inl morder)), (a27, .inl (g.2 3, 240, .inr (.inl mnumbers))), (a25, .inl (g.2 0, 4, .inl mmany)), (h0, .inr (12, [.int mthrown, .ref a1, .ref a2, .ref a3, .ref a4, .int mtaped, .ref a6, .int msize, .int mat, .int mfrom, .int mtoken, .int mvalue, .int mfaultKind, .int mfaultPlace, .ref a14, .ref a15, .int mgoal, .int mgoalDays, .int mgoalHearer, .ref a19, .ref a20, .int mleastOrder, .int mwordsMany, .ref a23, .ref a24, .ref a25, .ref a26, .ref a27, .ref a28])), (a1, .inl (g.2 0, 225, .inl mworld))] := hD
        refine W.eq (g2 := F0 m 58 ls [.int (u151.1 0), .int x137]) rfl ?_
        refine lv_iadd hx hb dX12_leftInOrder_58 ?_
        refine lv_topi (fun z153 e_z153 => ?_)
        refine lv_istore (lv' := [(4, .int z153), (6, .int (tdF mnumbers p1 z145)), (5, .int x136), (3, .int x138), (0, .ref h0), (1, .int p1), (2, .int p2)]) hx hb dX12_leftInOrder_59 hl (by decide) rfl (fun ls hl => ?_)
        refine lv_aload_n hx hb dX12_leftInOrder_61 rfl (lv_at hl 4 rfl) ?_
        refine lv_iload_n hx hb dX12_leftInOrder_62 rfl (lv_at hl 3 rfl) ?_
        refine lv_iload hx hb dX12_leftInOrder_63 (lv_at hl 1 rfl) ?_
        refine call_V (As := [.int x138, .int (tdF mnumbers p1 z145)]) (rest := []) (wr := [(a19, .inl (g.2 0, 6, .inl morder)), (a27, .inl (g.2 3, 240, .inr (.inl mnumbers))), (a25, .inl (g.2 0, 4, .inl mmany))]) FC hKn hZ (k_X12_behindOf l g h0 a1 a2 a3 a4 a6 a14 a15 a19 a20 a23 a24 a25 a26 a27 a28 mthrown mtaped msize mat mfrom mtoken mvalue mfaultKind mfaultPlace mgoal mgoalDays mgoalHearer mleastOrder mwordsMany mworld x138 (tdF mnumbers p1 z145) (by omega) (by omega) (by omega) (by omega) (by omega) (by omega) (by omega) (by omega) i_mworld (by omega) (by omega) (by omega)) m_yX12_behindOf b_854 (ci := 12) rfl rfl rfl hP hD hS hA [3, 4] [0, 1, 2] rfl (by decide) rfl (by decide) (by decide) rfl hl.1 rfl (Nat.le_of_ble_eq_true rfl) dX12_leftInOrder_65 ⟨(Nat.le_of_ble_eq_true rfl), (Nat.le_of_ble_eq_true rfl)⟩ ⟨(Nat.le_of_ble_eq_true rfl), (Nat.le_of_ble_eq_true rfl)⟩ (fun u154 H locs q155 hP hD hS => ?_)
        have q155_0 : 1 ≤ (u154.1 0).toInt ∧ (u154.1 0).toInt ≤ 255 := q155
        have hP : va_P g.1 vwCl [(a19, .inl (g.2 0, 6, .inl morder)), (a27, .inl (g.2 3, 240, .inr (.inl mnumbers))), (a25, .inl (g.2 0, 4, .inl mmany)), (h0, .inr (12, [.int mthrown, .ref a1, .ref a2, .ref a3, .ref a4, .int mtaped, .ref a6, .int msize, .int mat, .int mfrom, .int mtoken, .int mvalue, .int mfaultKind, .int mfaultPlace, .ref a14, .ref a15, .int mgoal, .int mgoalDays, .int mgoalHearer, .ref a19, .ref a20, .int mleastOrder, .int mwordsMany, .ref a23, .ref a24, .ref a25, .ref a26, .ref a27, .ref a28])), (a1, .inl (g.2 0, 225, .inl mworld))] H := hP
        have hD : va_D A [(a19, .inl (g.2 0, 6, .inl morder)), (a27, .inl (g.2 3, 240, .inr (.inl mnumbers))), (a25, .inl (g.2 0, 4, .inl mmany)), (h0, .inr (12, [.int mthrown, .ref a1, .ref a2, .ref a3, .ref a4, .int mtaped, .ref a6, .int msize, .int mat, .int mfrom, .int mtoken, .int mvalue, .int mfaultKind, .int mfaultPlace, .ref a14, .ref a15, .int mgoal, .int mgoalDays, .int mgoalHearer, .ref a19, .ref a20, .int mleastOrder, .int mwordsMany, .ref a23, .ref a24, .ref a25, .ref a26, .ref a27, .ref a28])), (a1, .inl (g.2 0, 225, .inl mworld))] := hD
        refine W.eq (g2 := F0 m 68 ls [.int (u154.1 0)]) rfl ?_
        refine lv_istore_n (lv' := [(3, .int (u154.1 0)), (4, .int z153), (6, .int (tdF mnumbers p1 z145)), (5, .int x136), (0, .ref h0), (1, .int p1), (2, .int p2)]) hx hb dX12_leftInOrder_68 rfl hl (by decide) rfl (fun ls hl => ?_)
        obtain ⟨z156, e_z156⟩ : ∃ y : Int32, y = x136 + 1 := ⟨_, rfl⟩
        have t_z156 : z156.toInt = x136.toInt + 1 := by rw [e_z156]; exact addk (by decide) (by omega) (by omega)
        refine lv_iinc (v := z156) (lv' := [(5, .int z156), (3, .int (u154.1 0)), (4, .int z153), (6, .int (tdF mnumbers p1 z145)), (0, .ref h0), (1, .int p1), (2, .int p2)]) hx hb dX12_leftInOrder_69 hl (k := 3) rfl (by rw [e_z156]; rfl) (by decide) rfl (fun ls hl => ?_)
        refine lv_goto (tgt := 11) hx hb dX12_leftInOrder_72 (by decide) ?_
        exact ih140 z156 z153 (u154.1 0) _ _ ls (by omega) (by omega) (by omega) (hP.sub [1, 2, 0, 3, 4] rfl) (hD.sub [1, 2, 0, 3, 4] (by decide) rfl) hS (lv_sub hl [0, 2, 1, 4, 5, 6] rfl)
  have kc0 : (0 : Int32).toInt = 0 := by decide
  exact lp139 _ (0 : Int32) (0 : Int32) (asF mworld) _ _ ls (by decide) (by omega) (Nat.lt_succ_self _) hP hD hS (lv_sub hl [0, 1, 2, 3, 4, 5] rfl)
