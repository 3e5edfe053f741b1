set_option maxRecDepth 100000 in
set_option maxHeartbeats 4000000 in
theorem c_X12_in (l : Launch) (g : GG) (v : Int64) (lo : Int64) (hi : Int64) : Ct l g yX12_in cX12_in 6 (some .boolean) { frames := 0, cells := 0, slots := 0, locals := 0 } [.long v, .long lo, .long hi] [] (S := Unit) (fun _ => some (.int (inF v lo hi))) (fun _ => True) (fun u => []) := by
  refine Ct.of (by decide) (Nat.le_of_ble_eq_true rfl) ?_
  intro p e s m below meth c A ls FX hP hD hS hl
  obtain ⟨FC, hr, hlk, hKn, hA, hnm, hZ⟩ := id FX
  have FC : CallFix p m c cX12_in 6 s _ BIG RX12 := FC
  obtain ⟨hx, hb, hml, hown, hB⟩ := id FC
  have hl : lv_has ls 6 [(0, .long v), (2, .long lo), (4, .long hi)] := hl
  refine lv_lload_n hx hb dX12_in_0 rfl (lv_at hl 0 rfl) ?_
  refine lv_lload_n hx hb dX12_in_1 rfl (lv_at hl 1 rfl) ?_
  refine W.lcmp hx hb dX12_in_2 ?_
  refine lv_if_lt (tgt := 17) hx hb dX12_in_3 (by decide) (fun c1 => ?_) (fun c1 => ?_)
  · have c1 := k_lt (a := (lg_cmp v lo).toInt) (b := 0) rfl (by decide) c1
    have c1 := kc_ltT c1
    refine lv_iconst (v := 0) hx hb dX12_in_17 (by decide) ?_
    exact rt_z FX rfl () (congrArg (fun z => some (Value.int z)) (show (0 : Int32) = _ from by unfold inF; (repeat' split) <;> first | rfl | (exfalso; omega))) trivial (hP.sub [] rfl) (hD.sub [] (by decide) rfl) hS (Nat.le_of_ble_eq_true rfl) (Nat.le_of_ble_eq_true rfl) dX12_in_18
  · have c1 := k_nlt (a := (lg_cmp v lo).toInt) (b := 0) rfl (by decide) c1
    have c1 := kc_ltF c1
    refine lv_lload_n hx hb dX12_in_6 rfl (lv_at hl 0 rfl) ?_
    refine lv_lload hx hb dX12_in_7 (lv_at hl 2 rfl) ?_
    refine W.lcmp hx hb dX12_in_9 ?_
    refine lv_if_gt (tgt := 17) hx hb dX12_in_10 (by decide) (fun c2 => ?_) (fun c2 => ?_)
    · have c2 := k_lt (a := 0) (b := (lg_cmp v hi).toInt) (by decide) rfl c2
      have c2 := kc_gtT c2
      refine lv_iconst (v := 0) hx hb dX12_in_17 (by decide) ?_
      exact rt_z FX rfl () (congrArg (fun z => some (Value.int z)) (show (0 : Int32) = _ from by unfold inF; (repeat' split) <;> first | rfl | (exfalso; omega))) trivial (hP.sub [] rfl) (hD.sub [] (by decide) rfl) hS (Nat.le_of_ble_eq_true rfl) (Nat.le_of_ble_eq_true rfl) dX12_in_18
    · have c2 := k_nlt (a := 0) (b := (lg_cmp v hi).toInt) (by decide) rfl c2
      have c2 := kc_gtF c2
      refine lv_iconst (v := 1) hx hb dX12_in_13 (by decide) ?_
      refine lv_goto (tgt := 18) hx hb dX12_in_14 (by decide) ?_
      exact rt_z FX rfl () (congrArg (fun z => some (Value.int z)) (show (1 : Int32) = _ from by unfold inF; (repeat' split) <;> first | rfl | (exfalso; omega))) trivial (hP.sub [] rfl) (hD.sub [] (by decide) rfl) hS (Nat.le_of_ble_eq_true rfl) (Nat.le_of_ble_eq_true rfl) dX12_in_18
set_option maxRecDepth 100000 in
set_option maxHeartbeats 4000000 in
theorem c_X12_even (l : Launch) (g : GG) (h0 : Nat) (a1 : Nat) (a2 : Nat) (a3 : Nat) (a4 : Nat) (a6 : Nat) (a14 : Nat) (a15 : Nat) (a19 : Nat) (a20 : Nat) (a23 : Nat) (a24 : Nat) (a25 : Nat) (a26 : Nat) (a27 : Nat) (a28 : Nat) (mthrown : Int32) (mtaped : Int32) (msize : Int32) (mat : Int32) (mfrom : Int32) (mtoken : Int32) (mvalue : Int32) (mfaultKind : Int32) (mfaultPlace : Int32) (mgoal : Int32) (mgoalDays : Int32) (mgoalHearer : Int32) (mleastOrder : Int32) (mwordsMany : Int32) (p1 : Int32) (p2 : Int32) : Ct l g yX12_even cX12_even 3 (some .int) { frames := 1, cells := 0, slots := 0, locals := 25 } [.ref h0, .int p1, .int p2] [(h0, .inr (12, [.int mthrown, .ref a1, .ref a2, .ref a3, .ref a4, .int mtaped, .ref a6, .int msize, .int mat, .int mfrom, .int mtoken, .int mvalue, .int mfaultKind, .int mfaultPlace, .ref a14, .ref a15, .int mgoal, .int mgoalDays, .int mgoalHearer, .ref a19, .ref a20, .int mleastOrder, .int mwordsMany, .ref a23, .ref a24, .ref a25, .ref a26, .ref a27, .ref a28]))] (S := Unit) (fun _ => some (.int (sp_even p1 p2))) (fun _ => True) (fun u => [(h0, .inr (12, [.int mthrown, .ref a1, .ref a2, .ref a3, .ref a4, .int mtaped, .ref a6, .int msize, .int mat, .int mfrom, .int mtoken, .int mvalue, .int mfaultKind, .int mfaultPlace, .ref a14, .ref a15, .int mgoal, .int mgoalDays, .int mgoalHearer, .ref a19, .ref a20, .int mleastOrder, .int mwordsMany, .ref a23, .ref a24, .ref a25, .ref a26, .ref a27, .ref a28]))]) := by
  refine Ct.of (by decide) (Nat.le_of_ble_eq_true rfl) ?_
  intro p e s m below meth c A ls FX hP hD hS hl
  obtain ⟨FC, hr, hlk, hKn, hA, hnm, hZ⟩ := id FX
  have FC : CallFix p m c cX12_even 3 s _ BIG RX12 := FC
  obtain ⟨hx, hb, hml, hown, hB⟩ := id FC
  have hl : lv_has ls 3 [(0, .ref h0), (1, .int p1), (2, .int p2)] := hl
  refine lv_iload_n hx hb dX12_even_0 rfl (lv_at hl 1 rfl) ?_
  refine lv_i2l (v := p1.toInt64) hx hb dX12_even_1 rfl ?_
  refine lv_lconst (v := 0) hx hb dX12_even_2 (by decide) ?_
  refine lv_ldc2 hx hb hown (hB _ b_1191) dX12_even_3 ?_
  refine call_S (As := [.long p1.toInt64, .long 0, .long 10000]) (rest := []) (wr := [(h0, .inr (12, [.int mthrown, .ref a1, .ref a2, .ref a3, .ref a4, .int mtaped, .ref a6, .int msize, .int mat, .int mfrom, .int mtoken, .int mvalue, .int mfaultKind, .int mfaultPlace, .ref a14, .ref a15, .int mgoal, .int mgoalDays, .int mgoalHearer, .ref a19, .ref a20, .int mleastOrder, .int mwordsMany, .ref a23, .ref a24, .ref a25, .ref a26, .ref a27, .ref a28]))]) FC hKn hZ (c_X12_in l g p1.toInt64 0 10000) m_yX12_in b_802 hP hD hS hA [] [0] rfl (by decide) rfl (by decide) (by decide) rfl hl.1 rfl (Nat.le_of_ble_eq_true rfl) dX12_even_6 ⟨(Nat.le_of_ble_eq_true rfl), (Nat.le_of_ble_eq_true rfl)⟩ ⟨(Nat.le_of_ble_eq_true rfl), (Nat.le_of_ble_eq_true rfl)⟩ (fun u1 H locs _ hP hD hS => ?_)
  have hP : va_P g.1 vwCl [(h0, .inr (12, [.int mthrown, .ref a1, .ref a2, .ref a3, .ref a4, .int mtaped, .ref a6, .int msize, .int mat, .int mfrom, .int mtoken, .int mvalue, .int mfaultKind, .int mfaultPlace, .ref a14, .ref a15, .int mgoal, .int mgoalDays, .int mgoalHearer, .ref a19, .ref a20, .int mleastOrder, .int mwordsMany, .ref a23, .ref a24, .ref a25, .ref a26, .ref a27, .ref a28]))] H := hP
  have hD : va_D A [(h0, .inr (12, [.int mthrown, .ref a1, .ref a2, .ref a3, .ref a4, .int mtaped, .ref a6, .int msize, .int mat, .int mfrom, .int mtoken, .int mvalue, .int mfaultKind, .int mfaultPlace, .ref a14, .ref a15, .int mgoal, .int mgoalDays, .int mgoalHearer, .ref a19, .ref a20, .int mleastOrder, .int mwordsMany, .ref a23, .ref a24, .ref a25, .ref a26, .ref a27, .ref a28]))] := hD
  refine W.eq (g2 := F0 m 9 ls [.int (inF p1.toInt64 0 10000)]) rfl ?_
  by_cases c2 : 0 ≤ p1.toInt ∧ p1.toInt ≤ 10000
  · refine tp_i (v := 1) (inF_yes (Int32.toInt_toInt64 _) (by decide) (by decide) c2) ?_
    refine lv_if_eq (tgt := 32) hx hb dX12_even_9 (by decide) (fun h => absurd h (by decide)) (fun _ => ?_)
    refine lv_iload_n hx hb dX12_even_12 rfl (lv_at hl 2 rfl) ?_
    refine lv_i2l (v := p2.toInt64) hx hb dX12_even_13 rfl ?_
    refine lv_lconst (v := 1) hx hb dX12_even_14 (by decide) ?_
    refine lv_ldc2 hx hb hown (hB _ b_857) dX12_even_15 ?_
    refine call_S (As := [.long p2.toInt64, .long 1, .long 100]) (rest := []) (wr := [(h0, .inr (12, [.int mthrown, .ref a1, .ref a2, .ref a3, .ref a4, .int mtaped, .ref a6, .int msize, .int mat, .int mfrom, .int mtoken, .int mvalue, .int mfaultKind, .int mfaultPlace, .ref a14, .ref a15, .int mgoal, .int mgoalDays, .int mgoalHearer, .ref a19, .ref a20, .int mleastOrder, .int mwordsMany, .ref a23, .ref a24, .ref a25, .ref a26, .ref a27, .ref a28]))]) FC hKn hZ (c_X12_in l g p2.toInt64 1 100) m_yX12_in b_802 hP hD hS hA [] [0] rfl (by decide) rfl (by decide) (by decide) rfl hl.1 rfl (Nat.le_of_ble_eq_true rfl) dX12_even_18 ⟨(Nat.le_of_ble_eq_true rfl), (Nat.le_of_ble_eq_true rfl)⟩ ⟨(Nat.le_of_ble_eq_true rfl), (Nat.le_of_ble_eq_true rfl)⟩ (fun u3 H locs _ hP hD hS => ?_)
    have hP : va_P g.1 vwCl [(h0, .inr (12, [.int mthrown, .ref a1, .ref a2, .ref a3, .ref a4, .int mtaped, .ref a6, .int msize, .int mat, .int mfrom, .int mtoken, .int mvalue, .int mfaultKind, .int mfaultPlace, .ref a14, .ref a15, .int mgoal, .int mgoalDays, .int mgoalHearer, .ref a19, .ref a20, .int mleastOrder, .int mwordsMany, .ref a23, .ref a24, .ref a25, .ref a26, .ref a27, .ref a28]))] H := hP
    have hD : va_D A [(h0, .inr (12, [.int mthrown, .ref a1, .ref a2, .ref a3, .ref a4, .int mtaped, .ref a6, .int msize, .int mat, .int mfrom, .int mtoken, .int mvalue, .int mfaultKind, .int mfaultPlace, .ref a14, .ref a15, .int mgoal, .int mgoalDays, .int mgoalHearer, .ref a19, .ref a20, .int mleastOrder, .int mwordsMany, .ref a23, .ref a24, .ref a25, .ref a26, .ref a27, .ref a28]))] := hD
    refine W.eq (g2 := F0 m 21 ls [.int (inF p2.toInt64 1 100)]) rfl ?_
    by_cases c4 : 1 ≤ p2.toInt ∧ p2.toInt ≤ 100
    · refine tp_i (v := 1) (inF_yes (Int32.toInt_toInt64 _) (by decide) (by decide) c4) ?_
      refine lv_if_eq (tgt := 32) hx hb dX12_even_21 (by decide) (fun h => absurd h (by decide)) (fun _ => ?_)
      refine lv_iload_n hx hb dX12_even_24 rfl (lv_at hl 1 rfl) ?_
      refine lv_iload_n hx hb dX12_even_25 rfl (lv_at hl 2 rfl) ?_
      refine call_S (As := [.int p1, .int p2]) (rest := []) (wr := [(h0, .inr (12, [.int mthrown, .ref a1, .ref a2, .ref a3, .ref a4, .int mtaped, .ref a6, .int msize, .int mat, .int mfrom, .int mtoken, .int mvalue, .int mfaultKind, .int mfaultPlace, .ref a14, .ref a15, .int mgoal, .int mgoalDays, .int mgoalHearer, .ref a19, .ref a20, .int mleastOrder, .int mwordsMany, .ref a23, .ref a24, .ref a25, .ref a26, .ref a27, .ref a28]))]) FC hKn hZ (c_X12_evenOf l g p1 p2 (show 1 ≤ p2.toInt by omega)) m_yX12_evenOf b_1192 hP hD hS hA [] [0] rfl (by decide) rfl (by decide) (by decide) rfl hl.1 rfl (Nat.le_of_ble_eq_true rfl) dX12_even_26 ⟨(Nat.le_of_ble_eq_true rfl), (Nat.le_of_ble_eq_true rfl)⟩ ⟨(Nat.le_of_ble_eq_true rfl), (Nat.le_of_ble_eq_true rfl)⟩ (fun u5 H locs _ hP hD hS => ?_)
      have hP : va_P g.1 vwCl [(h0, .inr (12, [.int mthrown, .ref a1, .ref a2, .ref a3, .ref a4, .int mtaped, .ref a6, .int msize, .int mat, .int mfrom, .int mtoken, .int mvalue, .int mfaultKind, .int mfaultPlace, .ref a14, .ref a15, .int mgoal, .int mgoalDays, .int mgoalHearer, .ref a19, .ref a20, .int mleastOrder, .int mwordsMany, .ref a23, .ref a24, .ref a25, .ref a26, .ref a27, .ref a28]))] H := hP
      have hD : va_D A [(h0, .inr (12, [.int mthrown, .ref a1, .ref a2, .ref a3, .ref a4, .int mtaped, .ref a6, .int msize, .int mat, .int mfrom, .int mtoken, .int mvalue, .int mfaultKind, .int mfaultPlace, .ref a14, .ref a15, .int mgoal, .int mgoalDays, .int mgoalHearer, .ref a19, .ref a20, .int mleastOrder, .int mwordsMany, .ref a23, .ref a24, .ref a25, .ref a26, .ref a27, .ref a28]))] := hD
      refine W.eq (g2 := F0 m 29 ls [.int (evF p1 p2)]) rfl ?_
      refine lv_goto (tgt := 34) hx hb dX12_even_29 (by decide) ?_
      exact rt_i FX () (congrArg (fun z => some (Value.int z)) (show (evF p1 p2 : Int32) = _ from by first | decide | (unfold sp_even; (repeat' split) <;> first | rfl | (exfalso; omega)))) trivial (hP.sub [0] rfl) (hD.sub [0] (by decide) rfl) hS (Nat.le_of_ble_eq_true rfl) (Nat.le_of_ble_eq_true rfl) dX12_even_34
    · refine tp_i (v := 0) (inF_not (Int32.toInt_toInt64 _) (by decide) (by decide) c4) ?_
      refine lv_if_eq (tgt := 32) hx hb dX12_even_21 (by decide) (fun _ => ?_) (fun h => absurd h (by decide))
      refine lv_bipush (v := -2) hx hb dX12_even_32 (by decide) ?_
      exact rt_i FX () (congrArg (fun z => some (Value.int z)) (show (-2 : Int32) = _ from by first | decide | (unfold sp_even; (repeat' split) <;> first | rfl | (exfalso; omega)))) trivial (hP.sub [0] rfl) (hD.sub [0] (by decide) rfl) hS (Nat.le_of_ble_eq_true rfl) (Nat.le_of_ble_eq_true rfl) dX12_even_34
  · refine tp_i (v := 0) (inF_not (Int32.toInt_toInt64 _) (by decide) (by decide) c2) ?_
    refine lv_if_eq (tgt := 32) hx hb dX12_even_9 (by decide) (fun _ => ?_) (fun h => absurd h (by decide))
    refine lv_bipush (v := -2) hx hb dX12_even_32 (by decide) ?_
    exact rt_i FX () (congrArg (fun z => some (Value.int z)) (show (-2 : Int32) = _ from by first | decide | (unfold sp_even; (repeat' split) <;> first | rfl | (exfalso; omega)))) trivial (hP.sub [0] rfl) (hD.sub [0] (by decide) rfl) hS (Nat.le_of_ble_eq_true rfl) (Nat.le_of_ble_eq_true rfl) dX12_even_34
set_option maxRecDepth 100000 in
set_option maxHeartbeats 4000000 in
theorem c_X12_steps (l : Launch) (g : GG) (h0 : Nat) (a1 : Nat) (a2 : Nat) (a3 : Nat) (a4 : Nat) (a6 : Nat) (a14 : Nat) (a15 : Nat) (a19 : Nat) (a20 : Nat) (a23 : Nat) (a24 : Nat) (a25 : Nat) (a26 : Nat) (a27 : Nat) (a28 : Nat) (mthrown : Int32) (mtaped : Int32) (msize : Int32) (mat : Int32) (mfrom : Int32) (mtoken : Int32) (mvalue : Int32) (mfaultKind : Int32) (mfaultPlace : Int32) (mgoal : Int32) (mgoalDays : Int32) (mgoalHearer : Int32) (mleastOrder : Int32) (mwordsMany : Int32) (p1 : Int32) (p2 : Int32) : Ct l g yX12_steps cX12_steps 5 (some .int) { frames := 1, cells := 0, slots := 0, locals := 25 } [.ref h0, .int p1, .int p2] [(h0, .inr (12, [.int mthrown, .ref a1, .ref a2, .ref a3, .ref a4, .int mtaped, .ref a6, .int msize, .int mat, .int mfrom, .int mtoken, .int mvalue, .int mfaultKind, .int mfaultPlace, .ref a14, .ref a15, .int mgoal, .int mgoalDays, .int mgoalHearer, .ref a19, .ref a20, .int mleastOrder, .int mwordsMany, .ref a23, .ref a24, .ref a25, .ref a26, .ref a27, .ref a28]))] (S := Unit) (fun _ => some (.int (sp_steps p1 p2))) (fun _ => True) (fun u => [(h0, .inr (12, [.int mthrown, .ref a1, .ref a2, .ref a3, .ref a4, .int mtaped, .ref a6, .int msize, .int mat, .int mfrom, .int mtoken, .int mvalue, .int mfaultKind, .int mfaultPlace, .ref a14, .ref a15, .int mgoal, .int mgoalDays, .int mgoalHearer, .ref a19, .ref a20, .int mleastOrder, .int mwordsMany, .ref a23, .ref a24, .ref a25, .ref a26, .ref a27, .ref a28]))]) := by
  refine Ct.of (by decide) (Nat.le_of_ble_eq_true rfl) ?_
  intro p e s m below meth c A ls FX hP hD hS hl
  obtain ⟨FC, hr, hlk, hKn, hA, hnm, hZ⟩ := id FX
  have FC : CallFix p m c cX12_steps 5 s _ BIG RX12 := FC
  obtain ⟨hx, hb, hml, hown, hB⟩ := id FC
  have hl : lv_has ls 5 [(0, .ref h0), (1, .int p1), (2, .int p2)] := hl
  refine lv_iload_n hx hb dX12_steps_0 rfl (lv_at hl 1 rfl) ?_
  refine lv_i2l (v := p1.toInt64) hx hb dX12_steps_1 rfl ?_
  refine lv_lconst (v := 0) hx hb dX12_steps_2 (by decide) ?_
  refine lv_ldc2 hx hb hown (hB _ b_1191) dX12_steps_3 ?_
  refine call_S (As := [.long p1.toInt64, .long 0, .long 10000]) (rest := []) (wr := [(h0, .inr (12, [.int mthrown, .ref a1, .ref a2, .ref a3, .ref a4, .int mtaped, .ref a6, .int msize, .int mat, .int mfrom, .int mtoken, .int mvalue, .int mfaultKind, .int mfaultPlace, .ref a14, .ref a15, .int mgoal, .int mgoalDays, .int mgoalHearer, .ref a19, .ref a20, .int mleastOrder, .int mwordsMany, .ref a23, .ref a24, .ref a25, .ref a26, .ref a27, .ref a28]))]) FC hKn hZ (c_X12_in l g p1.toInt64 0 10000) m_yX12_in b_802 hP hD hS hA [] [0] rfl (by decide) rfl (by decide) (by decide) rfl hl.1 rfl (Nat.le_of_ble_eq_true rfl) dX12_steps_6 ⟨(Nat.le_of_ble_eq_true rfl), (Nat.le_of_ble_eq_true rfl)⟩ ⟨(Nat.le_of_ble_eq_true rfl), (Nat.le_of_ble_eq_true rfl)⟩ (fun u1 H locs _ hP hD hS => ?_)
  have hP : va_P g.1 vwCl [(h0, .inr (12, [.int mthrown, .ref a1, .ref a2, .ref a3, .ref a4, .int mtaped, .ref a6, .int msize, .int mat, .int mfrom, .int mtoken, .int mvalue, .int mfaultKind, .int mfaultPlace, .ref a14, .ref a15, .int mgoal, .int mgoalDays, .int mgoalHearer, .ref a19, .ref a20, .int mleastOrder, .int mwordsMany, .ref a23, .ref a24, .ref a25, .ref a26, .ref a27, .ref a28]))] H := hP
  have hD : va_D A [(h0, .inr (12, [.int mthrown, .ref a1, .ref a2, .ref a3, .ref a4, .int mtaped, .ref a6, .int msize, .int mat, .int mfrom, .int mtoken, .int mvalue, .int mfaultKind, .int mfaultPlace, .ref a14, .ref a15, .int mgoal, .int mgoalDays, .int mgoalHearer, .ref a19, .ref a20, .int mleastOrder, .int mwordsMany, .ref a23, .ref a24, .ref a25, .ref a26, .ref a27, .ref a28]))] := hD
  refine W.eq (g2 := F0 m 9 ls [.int (inF p1.toInt64 0 10000)]) rfl ?_
  by_cases c2 : 0 ≤ p1.toInt ∧ p1.toInt ≤ 10000
  · refine tp_i (v := 1) (inF_yes (Int32.toInt_toInt64 _) (by decide) (by decide) c2) ?_
    refine lv_if_eq (tgt := 24) hx hb dX12_steps_9 (by decide) (fun h => absurd h (by decide)) (fun _ => ?_)
    refine lv_iload_n hx hb dX12_steps_12 rfl (lv_at hl 2 rfl) ?_
    refine lv_i2l (v := p2.toInt64) hx hb dX12_steps_13 rfl ?_
    refine lv_lconst (v := 0) hx hb dX12_steps_14 (by decide) ?_
    refine lv_ldc2 hx hb hown (hB _ b_1193) dX12_steps_15 ?_
    refine call_S (As := [.long p2.toInt64, .long 0, .long 100000]) (rest := []) (wr := [(h0, .inr (12, [.int mthrown, .ref a1, .ref a2, .ref a3, .ref a4, .int mtaped, .ref a6, .int msize, .int mat, .int mfrom, .int mtoken, .int mvalue, .int mfaultKind, .int mfaultPlace, .ref a14, .ref a15, .int mgoal, .int mgoalDays, .int mgoalHearer, .ref a19, .ref a20, .int mleastOrder, .int mwordsMany, .ref a23, .ref a24, .ref a25, .ref a26, .ref a27, .ref a28]))]) FC hKn hZ (c_X12_in l g p2.toInt64 0 100000) m_yX12_in b_802 hP hD hS hA [] [0] rfl (by decide) rfl (by decide) (by decide) rfl hl.1 rfl (Nat.le_of_ble_eq_true rfl) dX12_steps_18 ⟨(Nat.le_of_ble_eq_true rfl), (Nat.le_of_ble_eq_true rfl)⟩ ⟨(Nat.le_of_ble_eq_true rfl), (Nat.le_of_ble_eq_true rfl)⟩ (fun u3 H locs _ hP hD hS => ?_)
    have hP : va_P g.1 vwCl [(h0, .inr (12, [.int mthrown, .ref a1, .ref a2, .ref a3, .ref a4, .int mtaped, .ref a6, .int msize, .int mat, .int mfrom, .int mtoken, .int mvalue, .int mfaultKind, .int mfaultPlace, .ref a14, .ref a15, .int mgoal, .int mgoalDays, .int mgoalHearer, .ref a19, .ref a20, .int mleastOrder, .int mwordsMany, .ref a23, .ref a24, .ref a25, .ref a26, .ref a27, .ref a28]))] H := hP
    have hD : va_D A [(h0, .inr (12, [.int mthrown, .ref a1, .ref a2, .ref a3, .ref a4, .int mtaped, .ref a6, .int msize, .int mat, .int mfrom, .int mtoken, .int mvalue, .int mfaultKind, .int mfaultPlace, .ref a14, .ref a15, .int mgoal, .int mgoalDays, .int mgoalHearer, .ref a19, .ref a20, .int mleastOrder, .int mwordsMany, .ref a23, .ref a24, .ref a25, .ref a26, .ref a27, .ref a28]))] := hD
    refine W.eq (g2 := F0 m 21 ls [.int (inF p2.toInt64 0 100000)]) rfl ?_
    by_cases c4 : 0 ≤ p2.toInt ∧ p2.toInt ≤ 100000
    · refine tp_i (v := 1) (inF_yes (Int32.toInt_toInt64 _) (by decide) (by decide) c4) ?_
      refine lv_if_ne (tgt := 27) hx hb dX12_steps_21 (by decide) (fun _ => ?_) (fun h => absurd h (by decide))
      refine lv_iconst (v := 1) hx hb dX12_steps_27 (by decide) ?_
      refine lv_istore_n (lv' := [(3, .int 1), (0, .ref h0), (1, .int p1), (2, .int p2)]) hx hb dX12_steps_28 rfl hl (by decide) rfl (fun ls hl => ?_)
      refine lv_iconst (v := 2) hx hb dX12_steps_29 (by decide) ?_
      refine lv_istore (lv' := [(4, .int 2), (3, .int 1), (0, .ref h0), (1, .int p1), (2, .int p2)]) hx hb dX12_steps_30 hl (by decide) rfl (fun ls hl => ?_)
      have lp : ∀ (n k : Nat) (H : Heap) (locs : List Loc) (ls : Array Slot), k ≤ 99 → 99 < k + n → va_P g.1 vwCl [(h0, .inr (12, [.int mthrown, .ref a1, .ref a2, .ref a3, .ref a4, .int mtaped, .ref a6, .int msize, .int mat, .int mfrom, .int mtoken, .int mvalue, .int mfaultKind, .int mfaultPlace, .ref a14, .ref a15, .int mgoal, .int mgoalDays, .int mgoalHearer, .ref a19, .ref a20, .int mleastOrder, .int mwordsMany, .ref a23, .ref a24, .ref a25, .ref a26, .ref a27, .ref a28]))] H → va_D A [(h0, .inr (12, [.int mthrown, .ref a1, .ref a2, .ref a3, .ref a4, .int mtaped, .ref a6, .int msize, .int mat, .int mfrom, .int mtoken, .int mvalue, .int mfaultKind, .int mfaultPlace, .ref a14, .ref a15, .int mgoal, .int mgoalDays, .int mgoalHearer, .ref a19, .ref a20, .int mleastOrder, .int mwordsMany, .ref a23, .ref a24, .ref a25, .ref a26, .ref a27, .ref a28]))] → va_S A s.heap H locs → lv_has ls 5 [(4, .int (nI (k + 2))), (3, .int (bst p1 p2 k)), (0, .ref h0), (1, .int p1), (2, .int p2)] → W p l e { frames := 1, cells := 0, slots := 0, locals := 25 } s m ([.ref h0, .int p1, .int p2].toArray) below meth c H locs 0 0 (MQ below (QX (S := Unit) (fun _ => some (.int (sp_steps p1 p2))) (fun _ => True) g (fun u => [(h0, .inr (12, [.int mthrown, .ref a1, .ref a2, .ref a3, .ref a4, .int mtaped, .ref a6, .int msize, .int mat, .int mfrom, .int mtoken, .int mvalue, .int mfaultKind, .int mfaultPlace, .ref a14, .ref a15, .int mgoal, .int mgoalDays, .int mgoalHearer, .ref a19, .ref a20, .int mleastOrder, .int mwordsMany, .ref a23, .ref a24, .ref a25, .ref a26, .ref a27, .ref a28]))]) A) ([.ref h0, .int p1, .int p2].toArray) s 0 0 A) (F0 m 32 ls []) := by
        intro n
        induction n with
        | zero =>
          intro k H locs ls hi hn
          exact absurd hn (by omega)
        | succ n ih =>
          intro k H locs ls hi hn hP hD hS hl
          refine lv_iload hx hb dX12_steps_32 (lv_at hl 0 rfl) ?_
          refine lv_bipush (v := 100) hx hb dX12_steps_34 (by decide) ?_
          refine lv_icmp_gt (tgt := 75) hx hb dX12_steps_36 (by decide) (fun c5 => ?_) (fun c5 => ?_)
          · have c5 := k_lt (a := 100) (b := ((k + 2 : Nat) : Int)) (by decide) (nI_toInt (by omega)) c5
            refine lv_iload_n hx hb dX12_steps_75 rfl (lv_at hl 1 rfl) ?_
            exact rt_i FX () (congrArg (fun z => some (Value.int z)) (show bst p1 p2 k = sp_steps p1 p2 from (by have hk9 : k = 99 := (by omega); rw [hk9]; unfold sp_steps; rw [if_pos ⟨⟨by omega, by omega⟩, by omega, by omega⟩]))) trivial (hP.sub [0] rfl) (hD.sub [0] (by decide) rfl) hS (Nat.le_of_ble_eq_true rfl) (Nat.le_of_ble_eq_true rfl) dX12_steps_76
          · have c5 := k_nlt (a := 100) (b := ((k + 2 : Nat) : Int)) (by decide) (nI_toInt (by omega)) c5
            refine lv_iload_n hx hb dX12_steps_39 rfl (lv_at hl 3 rfl) ?_
            refine lv_iload hx hb dX12_steps_40 (lv_at hl 0 rfl) ?_
            refine call_S (As := [.int p1, .int (nI (k + 2))]) (rest := []) (wr := [(h0, .inr (12, [.int mthrown, .ref a1, .ref a2, .ref a3, .ref a4, .int mtaped, .ref a6, .int msize, .int mat, .int mfrom, .int mtoken, .int mvalue, .int mfaultKind, .int mfaultPlace, .ref a14, .ref a15, .int mgoal, .int mgoalDays, .int mgoalHearer, .ref a19, .ref a20, .int mleastOrder, .int mwordsMany, .ref a23, .ref a24, .ref a25, .ref a26, .ref a27, .ref a28]))]) FC hKn hZ (c_X12_evenOf l g p1 (nI (k + 2)) (show 1 ≤ (nI (k + 2)).toInt by rw [nI_toInt (by omega)]; omega)) m_yX12_evenOf b_1192 hP hD hS hA [] [0] rfl (by decide) rfl (by decide) (by decide) rfl hl.1 rfl (Nat.le_of_ble_eq_true rfl) dX12_steps_42 ⟨(Nat.le_of_ble_eq_true rfl), (Nat.le_of_ble_eq_true rfl)⟩ ⟨(Nat.le_of_ble_eq_true rfl), (Nat.le_of_ble_eq_true rfl)⟩ (fun u6 H locs _ hP hD hS => ?_)
            have hP : va_P g.1 vwCl [(h0, .inr (12, [.int mthrown, .ref a1, .ref a2, .ref a3, .ref a4, .int mtaped, .ref a6, .int msize, .int mat, .int mfrom, .int mtoken, .int mvalue, .int mfaultKind, .int mfaultPlace, .ref a14, .ref a15, .int mgoal, .int mgoalDays, .int mgoalHearer, .ref a19, .ref a20, .int mleastOrder, .int mwordsMany, .ref a23, .ref a24, .ref a25, .ref a26, .ref a27, .ref a28]))] H := hP
            have hD : va_D A [(h0, .inr (12, [.int mthrown, .ref a1, .ref a2, .ref a3, .ref a4, .int mtaped, .ref a6, .int msize, .int mat, .int mfrom, .int mtoken, .int mvalue, .int mfaultKind, .int mfaultPlace, .ref a14, .ref a15, .int mgoal, .int mgoalDays, .int mgoalHearer, .ref a19, .ref a20, .int mleastOrder, .int mwordsMany, .ref a23, .ref a24, .ref a25, .ref a26, .ref a27, .ref a28]))] := hD
            refine W.eq (g2 := F0 m 45 ls [.int (evF p1 (nI (k + 2)))]) rfl ?_
            refine lv_iload_n hx hb dX12_steps_45 rfl (lv_at hl 4 rfl) ?_
            refine lv_iload hx hb dX12_steps_46 (lv_at hl 0 rfl) ?_
            refine lv_imul hx hb dX12_steps_48 ?_
            refine lv_iadd hx hb dX12_steps_49 ?_
            refine lv_iload_n hx hb dX12_steps_50 rfl (lv_at hl 3 rfl) ?_
            refine lv_iload_n hx hb dX12_steps_51 rfl (lv_at hl 1 rfl) ?_
            refine call_S (As := [.int p1, .int (bst p1 p2 k)]) (rest := [.int ((evF p1 (nI (k + 2))) + (p2 * (nI (k + 2))))]) (wr := [(h0, .inr (12, [.int mthrown, .ref a1, .ref a2, .ref a3, .ref a4, .int mtaped, .ref a6, .int msize, .int mat, .int mfrom, .int mtoken, .int mvalue, .int mfaultKind, .int mfaultPlace, .ref a14, .ref a15, .int mgoal, .int mgoalDays, .int mgoalHearer, .ref a19, .ref a20, .int mleastOrder, .int mwordsMany, .ref a23, .ref a24, .ref a25, .ref a26, .ref a27, .ref a28]))]) FC hKn hZ (c_X12_evenOf l g p1 (bst p1 p2 k) (bst_pos _ _ _ (by omega))) m_yX12_evenOf b_1192 hP hD hS hA [] [0] rfl (by decide) rfl (by decide) (by decide) rfl hl.1 rfl (Nat.le_of_ble_eq_true rfl) dX12_steps_52 ⟨(Nat.le_of_ble_eq_true rfl), (Nat.le_of_ble_eq_true rfl)⟩ ⟨(Nat.le_of_ble_eq_true rfl), (Nat.le_of_ble_eq_true rfl)⟩ (fun u7 H locs _ hP hD hS => ?_)
            have hP : va_P g.1 vwCl [(h0, .inr (12, [.int mthrown, .ref a1, .ref a2, .ref a3, .ref a4, .int mtaped, .ref a6, .int msize, .int mat, .int mfrom, .int mtoken, .int mvalue, .int mfaultKind, .int mfaultPlace, .ref a14, .ref a15, .int mgoal, .int mgoalDays, .int mgoalHearer, .ref a19, .ref a20, .int mleastOrder, .int mwordsMany, .ref a23, .ref a24, .ref a25, .ref a26, .ref a27, .ref a28]))] H := hP
            have hD : va_D A [(h0, .inr (12, [.int mthrown, .ref a1, .ref a2, .ref a3, .ref a4, .int mtaped, .ref a6, .int msize, .int mat, .int mfrom, .int mtoken, .int mvalue, .int mfaultKind, .int mfaultPlace, .ref a14, .ref a15, .int mgoal, .int mgoalDays, .int mgoalHearer, .ref a19, .ref a20, .int mleastOrder, .int mwordsMany, .ref a23, .ref a24, .ref a25, .ref a26, .ref a27, .ref a28]))] := hD
            refine W.eq (g2 := F0 m 55 ls [.int (evF p1 (bst p1 p2 k)), .int ((evF p1 (nI (k + 2))) + (p2 * (nI (k + 2))))]) rfl ?_
            refine lv_iload_n hx hb dX12_steps_55 rfl (lv_at hl 4 rfl) ?_
            refine lv_iload_n hx hb dX12_steps_56 rfl (lv_at hl 1 rfl) ?_
            refine lv_imul hx hb dX12_steps_57 ?_
            refine lv_iadd hx hb dX12_steps_58 ?_
            refine lv_icmp_ge (tgt := 67) hx hb dX12_steps_59 (by decide) (fun c8 => ?_) (fun c8 => ?_)
            · have c8 := k_le (a := ((evF p1 (bst p1 p2 k)) + (p2 * (bst p1 p2 k))).toInt) (b := ((evF p1 (nI (k + 2))) + (p2 * (nI (k + 2)))).toInt) rfl rfl c8
              refine lv_iload_n hx hb dX12_steps_67 rfl (lv_at hl 1 rfl) ?_
              refine lv_istore_n (lv' := [(3, .int (bst p1 p2 k)), (4, .int (nI (k + 2))), (0, .ref h0), (1, .int p1), (2, .int p2)]) hx hb dX12_steps_68 rfl hl (by decide) rfl (fun ls hl => ?_)
              refine lv_iinc (v := nI (k + 2 + 1)) (lv' := [(4, .int (nI (k + 2 + 1))), (3, .int (bst p1 p2 k)), (0, .ref h0), (1, .int p1), (2, .int p2)]) hx hb dX12_steps_69 hl (k := 1) rfl (nI_1 _) (by decide) rfl (fun ls hl => ?_)
              refine lv_goto (tgt := 32) hx hb dX12_steps_72 (by decide) ?_
              have hb1 : bst p1 p2 (k + 1) = bst p1 p2 k := if_neg (show ¬ (evF p1 (nI (k + 2)) + p2 * nI (k + 2) < cst p1 p2 (bst p1 p2 k)) from fun z => by have z := Int32.lt_iff_toInt_lt.mp z; have c8 : (cst p1 p2 (bst p1 p2 k)).toInt ≤ (evF p1 (nI (k + 2)) + p2 * nI (k + 2)).toInt := c8; omega)
              exact ih (k + 1) H locs ls (by omega) (by omega) hP hD hS (by rw [hb1]; exact lv_sub hl [0, 1, 2, 3, 4] rfl)
            · have c8 := k_nle (a := ((evF p1 (bst p1 p2 k)) + (p2 * (bst p1 p2 k))).toInt) (b := ((evF p1 (nI (k + 2))) + (p2 * (nI (k + 2)))).toInt) rfl rfl c8
              refine lv_iload hx hb dX12_steps_62 (lv_at hl 0 rfl) ?_
              refine lv_goto (tgt := 68) hx hb dX12_steps_64 (by decide) ?_
              refine lv_istore_n (lv' := [(3, .int (nI (k + 2))), (4, .int (nI (k + 2))), (0, .ref h0), (1, .int p1), (2, .int p2)]) hx hb dX12_steps_68 rfl hl (by decide) rfl (fun ls hl => ?_)
              refine lv_iinc (v := nI (k + 2 + 1)) (lv' := [(4, .int (nI (k + 2 + 1))), (3, .int (nI (k + 2))), (0, .ref h0), (1, .int p1), (2, .int p2)]) hx hb dX12_steps_69 hl (k := 1) rfl (nI_1 _) (by decide) rfl (fun ls hl => ?_)
              refine lv_goto (tgt := 32) hx hb dX12_steps_72 (by decide) ?_
              have hb1 : bst p1 p2 (k + 1) = nI (k + 2) := if_pos (show evF p1 (nI (k + 2)) + p2 * nI (k + 2) < cst p1 p2 (bst p1 p2 k) from Int32.lt_iff_toInt_lt.mpr (by have c8 : (evF p1 (nI (k + 2)) + p2 * nI (k + 2)).toInt < (cst p1 p2 (bst p1 p2 k)).toInt := c8; omega))
              exact ih (k + 1) H locs ls (by omega) (by omega) hP hD hS (by rw [hb1]; exact lv_sub hl [0, 1, 2, 3, 4] rfl)
      exact lp 100 0 _ _ ls (by omega) (by omega) hP hD hS (lv_sub hl [0, 1, 2, 3, 4] rfl)
    · refine tp_i (v := 0) (inF_not (Int32.toInt_toInt64 _) (by decide) (by decide) c4) ?_
      refine lv_if_ne (tgt := 27) hx hb dX12_steps_21 (by decide) (fun h => absurd h (by decide)) (fun _ => ?_)
      refine lv_bipush (v := -2) hx hb dX12_steps_24 (by decide) ?_
      exact rt_i FX () (congrArg (fun z => some (Value.int z)) (show (-2 : Int32) = sp_steps p1 p2 from (by unfold sp_steps; rw [if_neg (fun q => by omega)]))) trivial (hP.sub [0] rfl) (hD.sub [0] (by decide) rfl) hS (Nat.le_of_ble_eq_true rfl) (Nat.le_of_ble_eq_true rfl) dX12_steps_26
  · refine tp_i (v := 0) (inF_not (Int32.toInt_toInt64 _) (by decide) (by decide) c2) ?_
    refine lv_if_eq (tgt := 24) hx hb dX12_steps_9 (by decide) (fun _ => ?_) (fun h => absurd h (by decide))
    refine lv_bipush (v := -2) hx hb dX12_steps_24 (by decide) ?_
    exact rt_i FX () (congrArg (fun z => some (Value.int z)) (show (-2 : Int32) = sp_steps p1 p2 from (by unfold sp_steps; rw [if_neg (fun q => by omega)]))) trivial (hP.sub [0] rfl) (hD.sub [0] (by decide) rfl) hS (Nat.le_of_ble_eq_true rfl) (Nat.le_of_ble_eq_true rfl) dX12_steps_26
