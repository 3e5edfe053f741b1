set_option maxRecDepth 100000 in
set_option maxHeartbeats 4000000 in
theorem k_X12_cut (l : Launch) (g : GG) (p0 : Int64) (p1 : Int32) (i_p1 : 0 ≤ p1.toInt ∧ p1.toInt ≤ 3) : Ct l g yX12_cut cX12_cut 4 (some .long) { frames := 0, cells := 0, slots := 0, locals := 0 } [.long p0, .int p1] [] (S := (Nat → Int32) × (Nat → Nat → Int32) × (Nat → Nat → Int64)) (fun u => some (.long (u.2.2 9 0))) (fun u => True) (fun u => []) := by
  refine Ct.of (by decide) (Nat.le_of_ble_eq_true rfl) ?_
  intro p e s m below meth c A ls FX hP hD hS hl
  obtain ⟨FC, hr, hlk, hKn, hA, hnm, hZ⟩ := id FX
  have FC : CallFix p m c cX12_cut 4 s _ BIG RX12 := FC
  obtain ⟨hx, hb, hml, hown, hB⟩ := id FC
  have hl : lv_has ls 4 [(0, .long p0), (2, .int p1)] := hl
  refine lv_bipush (v := 64) hx hb dX12_cut_0 (by decide) ?_
  refine lv_bipush (v := 8) hx hb dX12_cut_2 (by decide) ?_
  refine lv_iload_n hx hb dX12_cut_4 rfl (lv_at hl 1 rfl) ?_
  refine lv_ishl hx hb dX12_cut_5 ?_
  refine lv_topi (fun z1 e_z1 => ?_)
  refine lv_isub hx hb dX12_cut_6 ?_
  refine lv_topi (fun z2 e_z2 => ?_)
  refine lv_istore_n (lv' := [(3, .int z2), (0, .long p0), (2, .int p1)]) hx hb dX12_cut_7 rfl hl (by decide) rfl (fun ls hl => ?_)
  refine lv_lload_n hx hb dX12_cut_8 rfl (lv_at hl 1 rfl) ?_
  refine lv_iload_n hx hb dX12_cut_9 rfl (lv_at hl 0 rfl) ?_
  refine lv_lshl hx hb dX12_cut_10 rfl ?_
  refine lv_topl (fun z3 e_z3 => ?_)
  refine lv_iload_n hx hb dX12_cut_11 rfl (lv_at hl 0 rfl) ?_
  refine lv_lshr hx hb dX12_cut_12 rfl ?_
  refine lv_topl (fun z4 e_z4 => ?_)
  exact rt_l FX ((fun k => match k with | 0 => 0 | _ => 0), (fun _ => fun _ => 0), (fun k => match k with | 9 => (fun _ => z4) | _ => fun _ => 0)) rfl trivial (hP.sub [] rfl) (hD.sub [] (by decide) rfl) hS (Nat.le_of_ble_eq_true rfl) (Nat.le_of_ble_eq_true rfl) dX12_cut_13
set_option maxRecDepth 100000 in
set_option maxHeartbeats 4000000 in
theorem k_X12_row (l : Launch) (g : GG) (h0 : Nat) (a1 : Nat) (a2 : Nat) (a3 : Nat) (a4 : Nat) (a6 : Nat) (a14 : Nat) (a15 : Nat) (a19 : Nat) (a20 : Nat) (a23 : Nat) (a24 : Nat) (a25 : Nat) (a26 : Nat) (a27 : Nat) (a28 : Nat) (mthrown : Int32) (mtaped : Int32) (msize : Int32) (mat : Int32) (mfrom : Int32) (mtoken : Int32) (mvalue : Int32) (mfaultKind : Int32) (mfaultPlace : Int32) (mgoal : Int32) (mgoalDays : Int32) (mgoalHearer : Int32) (mleastOrder : Int32) (mwordsMany : Int32) (mmany : Nat → Int32) (mwidth : Nat → Int32) (mnumbers : Nat → Int64) (p1 : Int32) (p2 : Int32) (p3 : Int32) (i_mtaped : 0 ≤ mtaped.toInt ∧ mtaped.toInt ≤ 900) (i_msize : 0 ≤ msize.toInt ∧ msize.toInt ≤ 900) (i_mat : 0 ≤ mat.toInt ∧ mat.toInt ≤ 900) (i_mfrom : 0 ≤ mfrom.toInt ∧ mfrom.toInt ≤ 900) (i_mtoken : 0 ≤ mtoken.toInt ∧ mtoken.toInt ≤ 4) (i_mvalue : 0 ≤ mvalue.toInt ∧ mvalue.toInt ≤ 99999) (i_mgoalHearer : 0 ≤ mgoalHearer.toInt ∧ mgoalHearer.toInt ≤ 3) (i_mwordsMany : 0 ≤ mwordsMany.toInt ∧ mwordsMany.toInt ≤ 10) (i_mmany : ab mmany 4 (-1) 60) (i_mwidth : ab mwidth 4 0 3) : Ct l g yX12_row cX12_row 5 (some .int) { frames := 2, cells := 0, slots := 0, locals := 45 } [.ref h0, .int p1, .int p2, .int p3] [(h0, .inr (12, [.int mthrown, .ref a1, .ref a2, .ref a3, .ref a4, .int mtaped, .ref a6, .int msize, .int mat, .int mfrom, .int mtoken, .int mvalue, .int mfaultKind, .int mfaultPlace, .ref a14, .ref a15, .int mgoal, .int mgoalDays, .int mgoalHearer, .ref a19, .ref a20, .int mleastOrder, .int mwordsMany, .ref a23, .ref a24, .ref a25, .ref a26, .ref a27, .ref a28])), (a25, .inl (g.2 0, 4, .inl mmany)), (a26, .inl (g.2 0, 4, .inl mwidth)), (a27, .inl (g.2 3, 240, .inr (.inl mnumbers)))] (S := (Nat → Int32) × (Nat → Nat → Int32) × (Nat → Nat → Int64)) (fun u => some (.int (u.1 0))) (fun u => (ab (u.2.1 0) 4 (-1) 60) ∧ (ab (u.2.1 1) 4 0 3) ∧ ((((p1.toInt < 0 ∨ 3 < p1.toInt ∨ p2.toInt < 0 ∨ 3 < p2.toInt ∨ 60 < p3.toInt) ∧ (u.1 0).toInt = -2) ∨ ((0 ≤ p1.toInt ∧ p1.toInt ≤ 3 ∧ 0 ≤ p2.toInt ∧ p2.toInt ≤ 3 ∧ p3.toInt ≤ 60) ∧ p3.toInt < 0 ∧ (u.1 0).toInt = -3) ∨ ((0 ≤ p1.toInt ∧ p1.toInt ≤ 3 ∧ 0 ≤ p2.toInt ∧ p2.toInt ≤ 3 ∧ p3.toInt ≤ 60) ∧ 0 ≤ p3.toInt ∧ (u.1 0).toInt = 0))) ∧ ((((u.1 0).toInt = 0 ∧ p1.toInt = 0) ∧ ((u.2.1 0) 0).toInt = p3.toInt ∧ ((u.2.1 1) 0).toInt = p2.toInt) ∨ (((u.1 0).toInt ≠ 0 ∨ p1.toInt ≠ 0) ∧ ((u.2.1 0) 0).toInt = (mmany 0).toInt ∧ ((u.2.1 1) 0).toInt = (mwidth 0).toInt)) ∧ ((((u.1 0).toInt = 0 ∧ p1.toInt = 1) ∧ ((u.2.1 0) 1).toInt = p3.toInt ∧ ((u.2.1 1) 1).toInt = p2.toInt) ∨ (((u.1 0).toInt ≠ 0 ∨ p1.toInt ≠ 1) ∧ ((u.2.1 0) 1).toInt = (mmany 1).toInt ∧ ((u.2.1 1) 1).toInt = (mwidth 1).toInt)) ∧ ((((u.1 0).toInt = 0 ∧ p1.toInt = 2) ∧ ((u.2.1 0) 2).toInt = p3.toInt ∧ ((u.2.1 1) 2).toInt = p2.toInt) ∨ (((u.1 0).toInt ≠ 0 ∨ p1.toInt ≠ 2) ∧ ((u.2.1 0) 2).toInt = (mmany 2).toInt ∧ ((u.2.1 1) 2).toInt = (mwidth 2).toInt)) ∧ ((((u.1 0).toInt = 0 ∧ p1.toInt = 3) ∧ ((u.2.1 0) 3).toInt = p3.toInt ∧ ((u.2.1 1) 3).toInt = p2.toInt) ∨ (((u.1 0).toInt ≠ 0 ∨ p1.toInt ≠ 3) ∧ ((u.2.1 0) 3).toInt = (mmany 3).toInt ∧ ((u.2.1 1) 3).toInt = (mwidth 3).toInt))) (fun u => [(h0, .inr (12, [.int mthrown, .ref a1, .ref a2, .ref a3, .ref a4, .int mtaped, .ref a6, .int msize, .int mat, .int mfrom, .int mtoken, .int mvalue, .int mfaultKind, .int mfaultPlace, .ref a14, .ref a15, .int mgoal, .int mgoalDays, .int mgoalHearer, .ref a19, .ref a20, .int mleastOrder, .int mwordsMany, .ref a23, .ref a24, .ref a25, .ref a26, .ref a27, .ref a28])), (a25, .inl (g.2 0, 4, .inl (u.2.1 0))), (a26, .inl (g.2 0, 4, .inl (u.2.1 1))), (a27, .inl (g.2 3, 240, .inr (.inl (u.2.2 0))))]) := by
  refine Ct.of (by decide) (Nat.le_of_ble_eq_true rfl) ?_
  intro p e s m below meth c A ls FX hP hD hS hl
  obtain ⟨FC, hr, hlk, hKn, hA, hnm, hZ⟩ := id FX
  have FC : CallFix p m c cX12_row 5 s _ BIG RX12 := FC
  obtain ⟨hx, hb, hml, hown, hB⟩ := id FC
  have hl : lv_has ls 5 [(0, .ref h0), (1, .int p1), (2, .int p2), (3, .int p3)] := hl
  refine lv_iload_n hx hb dX12_row_0 rfl (lv_at hl 1 rfl) ?_
  refine call_S (As := [.int p1]) (rest := []) (wr := [(h0, .inr (12, [.int mthrown, .ref a1, .ref a2, .ref a3, .ref a4, .int mtaped, .ref a6, .int msize, .int mat, .int mfrom, .int mtoken, .int mvalue, .int mfaultKind, .int mfaultPlace, .ref a14, .ref a15, .int mgoal, .int mgoalDays, .int mgoalHearer, .ref a19, .ref a20, .int mleastOrder, .int mwordsMany, .ref a23, .ref a24, .ref a25, .ref a26, .ref a27, .ref a28])), (a25, .inl (g.2 0, 4, .inl mmany)), (a26, .inl (g.2 0, 4, .inl mwidth)), (a27, .inl (g.2 3, 240, .inr (.inl mnumbers)))]) FC hKn hZ (k_X12_isSlot l g p1) m_yX12_isSlot b_933 hP hD hS hA [] [0, 1, 2, 3] rfl (by decide) rfl (by decide) (by decide) rfl hl.1 rfl (Nat.le_of_ble_eq_true rfl) dX12_row_1 ⟨(Nat.le_of_ble_eq_true rfl), (Nat.le_of_ble_eq_true rfl)⟩ ⟨(Nat.le_of_ble_eq_true rfl), (Nat.le_of_ble_eq_true rfl)⟩ (fun u1 H locs q2 hP hD hS => ?_)
  obtain ⟨q2_0, q2_1, q2_2⟩ := q2
  have hP : va_P g.1 vwCl [(h0, .inr (12, [.int mthrown, .ref a1, .ref a2, .ref a3, .ref a4, .int mtaped, .ref a6, .int msize, .int mat, .int mfrom, .int mtoken, .int mvalue, .int mfaultKind, .int mfaultPlace, .ref a14, .ref a15, .int mgoal, .int mgoalDays, .int mgoalHearer, .ref a19, .ref a20, .int mleastOrder, .int mwordsMany, .ref a23, .ref a24, .ref a25, .ref a26, .ref a27, .ref a28])), (a25, .inl (g.2 0, 4, .inl mmany)), (a26, .inl (g.2 0, 4, .inl mwidth)), (a27, .inl (g.2 3, 240, .inr (.inl mnumbers)))] H := hP
  have hD : va_D A [(h0, .inr (12, [.int mthrown, .ref a1, .ref a2, .ref a3, .ref a4, .int mtaped, .ref a6, .int msize, .int mat, .int mfrom, .int mtoken, .int mvalue, .int mfaultKind, .int mfaultPlace, .ref a14, .ref a15, .int mgoal, .int mgoalDays, .int mgoalHearer, .ref a19, .ref a20, .int mleastOrder, .int mwordsMany, .ref a23, .ref a24, .ref a25, .ref a26, .ref a27, .ref a28])), (a25, .inl (g.2 0, 4, .inl mmany)), (a26, .inl (g.2 0, 4, .inl mwidth)), (a27, .inl (g.2 3, 240, .inr (.inl mnumbers)))] := hD
  refine W.eq (g2 := F0 m 4 ls [.int (u1.1 0)]) rfl ?_
  rcases (show (u1.1 0).toInt = 0 ∨ (u1.1 0).toInt = 1 by omega) with c3 | c3
  · skip
    refine lv_if_eq (tgt := 25) hx hb dX12_row_4 (by decide) (fun c4 => ?_) (fun c4 => ?_)
    · have c4 := k_eq (a := (u1.1 0).toInt) (b := 0) rfl (by decide) c4
      refine lv_bipush (v := -2) hx hb dX12_row_25 (by decide) ?_
      have kcm2 : (-2 : Int32).toInt = -2 := by decide
      exact rt_i FX ((fun k => match k with | 0 => (-2 : Int32) | _ => 0), (fun k => match k with | 0 => mmany | 1 => mwidth | _ => fun _ => 0), (fun k => match k with | 0 => mnumbers | _ => fun _ => 0)) rfl ⟨i_mmany, i_mwidth, (show (((p1.toInt < 0 ∨ 3 < p1.toInt ∨ p2.toInt < 0 ∨ 3 < p2.toInt ∨ 60 < p3.toInt) ∧ ((-2 : Int32)).toInt = -2) ∨ ((0 ≤ p1.toInt ∧ p1.toInt ≤ 3 ∧ 0 ≤ p2.toInt ∧ p2.toInt ≤ 3 ∧ p3.toInt ≤ 60) ∧ p3.toInt < 0 ∧ ((-2 : Int32)).toInt = -3) ∨ ((0 ≤ p1.toInt ∧ p1.toInt ≤ 3 ∧ 0 ≤ p2.toInt ∧ p2.toInt ≤ 3 ∧ p3.toInt ≤ 60) ∧ 0 ≤ p3.toInt ∧ ((-2 : Int32)).toInt = 0)) by omega), (show ((((-2 : Int32)).toInt = 0 ∧ p1.toInt = 0) ∧ ((mmany) 0).toInt = p3.toInt ∧ ((mwidth) 0).toInt = p2.toInt) ∨ ((((-2 : Int32)).toInt ≠ 0 ∨ p1.toInt ≠ 0) ∧ ((mmany) 0).toInt = (mmany 0).toInt ∧ ((mwidth) 0).toInt = (mwidth 0).toInt) from (by omega)), (show ((((-2 : Int32)).toInt = 0 ∧ p1.toInt = 1) ∧ ((mmany) 1).toInt = p3.toInt ∧ ((mwidth) 1).toInt = p2.toInt) ∨ ((((-2 : Int32)).toInt ≠ 0 ∨ p1.toInt ≠ 1) ∧ ((mmany) 1).toInt = (mmany 1).toInt ∧ ((mwidth) 1).toInt = (mwidth 1).toInt) from (by omega)), (show ((((-2 : Int32)).toInt = 0 ∧ p1.toInt = 2) ∧ ((mmany) 2).toInt = p3.toInt ∧ ((mwidth) 2).toInt = p2.toInt) ∨ ((((-2 : Int32)).toInt ≠ 0 ∨ p1.toInt ≠ 2) ∧ ((mmany) 2).toInt = (mmany 2).toInt ∧ ((mwidth) 2).toInt = (mwidth 2).toInt) from (by omega)), (show ((((-2 : Int32)).toInt = 0 ∧ p1.toInt = 3) ∧ ((mmany) 3).toInt = p3.toInt ∧ ((mwidth) 3).toInt = p2.toInt) ∨ ((((-2 : Int32)).toInt ≠ 0 ∨ p1.toInt ≠ 3) ∧ ((mmany) 3).toInt = (mmany 3).toInt ∧ ((mwidth) 3).toInt = (mwidth 3).toInt) from (by omega))⟩ (hP.sub [0, 1, 2, 3] rfl) (hD.sub [0, 1, 2, 3] (by decide) rfl) hS (Nat.le_of_ble_eq_true rfl) (Nat.le_of_ble_eq_true rfl) dX12_row_27
    · have c4 := k_ne (a := (u1.1 0).toInt) (b := 0) rfl (by decide) c4
      exfalso; omega
  · have c3_r := q2_2 c3
    refine lv_if_eq (tgt := 25) hx hb dX12_row_4 (by decide) (fun c5 => ?_) (fun c5 => ?_)
    · have c5 := k_eq (a := (u1.1 0).toInt) (b := 0) rfl (by decide) c5
      exfalso; omega
    · have c5 := k_ne (a := (u1.1 0).toInt) (b := 0) rfl (by decide) c5
      refine lv_iload_n hx hb dX12_row_7 rfl (lv_at hl 2 rfl) ?_
      refine lv_i2l (v := p2.toInt64) hx hb dX12_row_8 rfl ?_
      refine lv_topl (fun z6 e_z6 => ?_)
      have t_z6 : z6.toInt = p2.toInt := by rw [e_z6]; exact Int32.toInt_toInt64 _
      refine lv_lconst (v := 0) hx hb dX12_row_9 (by decide) ?_
      refine lv_ldc2 hx hb hown (hB _ b_931) dX12_row_10 ?_
      have kcl0 : (0 : Int64).toInt = 0 := by decide
      have kcl3 : (3 : Int64).toInt = 3 := by decide
      refine call_S (As := [.long z6, .long 0, .long 3]) (rest := []) (wr := [(h0, .inr (12, [.int mthrown, .ref a1, .ref a2, .ref a3, .ref a4, .int mtaped, .ref a6, .int msize, .int mat, .int mfrom, .int mtoken, .int mvalue, .int mfaultKind, .int mfaultPlace, .ref a14, .ref a15, .int mgoal, .int mgoalDays, .int mgoalHearer, .ref a19, .ref a20, .int mleastOrder, .int mwordsMany, .ref a23, .ref a24, .ref a25, .ref a26, .ref a27, .ref a28])), (a25, .inl (g.2 0, 4, .inl mmany)), (a26, .inl (g.2 0, 4, .inl mwidth)), (a27, .inl (g.2 3, 240, .inr (.inl mnumbers)))]) FC hKn hZ (k_X12_in l g z6 ((0 : Int64)) ((3 : Int64))) m_yX12_in b_802 hP hD hS hA [] [0, 1, 2, 3] rfl (by decide) rfl (by decide) (by decide) rfl hl.1 rfl (Nat.le_of_ble_eq_true rfl) dX12_row_13 ⟨(Nat.le_of_ble_eq_true rfl), (Nat.le_of_ble_eq_true rfl)⟩ ⟨(Nat.le_of_ble_eq_true rfl), (Nat.le_of_ble_eq_true rfl)⟩ (fun u7 H locs q8 hP hD hS => ?_)
      obtain ⟨q8_0, q8_1, q8_2⟩ := q8
      have hP : va_P g.1 vwCl [(h0, .inr (12, [.int mthrown, .ref a1, .ref a2, .ref a3, .ref a4, .int mtaped, .ref a6, .int msize, .int mat, .int mfrom, .int mtoken, .int mvalue, .int mfaultKind, .int mfaultPlace, .ref a14, .ref a15, .int mgoal, .int mgoalDays, .int mgoalHearer, .ref a19, .ref a20, .int mleastOrder, .int mwordsMany, .ref a23, .ref a24, .ref a25, .ref a26, .ref a27, .ref a28])), (a25, .inl (g.2 0, 4, .inl mmany)), (a26, .inl (g.2 0, 4, .inl mwidth)), (a27, .inl (g.2 3, 240, .inr (.inl mnumbers)))] H := hP
      have hD : va_D A [(h0, .inr (12, [.int mthrown, .ref a1, .ref a2, .ref a3, .ref a4, .int mtaped, .ref a6, .int msize, .int mat, .int mfrom, .int mtoken, .int mvalue, .int mfaultKind, .int mfaultPlace, .ref a14, .ref a15, .int mgoal, .int mgoalDays, .int mgoalHearer, .ref a19, .ref a20, .int mleastOrder, .int mwordsMany, .ref a23, .ref a24, .ref a25, .ref a26, .ref a27, .ref a28])), (a25, .inl (g.2 0, 4, .inl mmany)), (a26, .inl (g.2 0, 4, .inl mwidth)), (a27, .inl (g.2 3, 240, .inr (.inl mnumbers)))] := hD
      refine W.eq (g2 := F0 m 16 ls [.int (u7.1 0)]) rfl ?_
      rcases (show (u7.1 0).toInt = 0 ∨ (u7.1 0).toInt = 1 by omega) with c9 | c9
      · skip
        refine lv_if_eq (tgt := 25) hx hb dX12_row_16 (by decide) (fun c10 => ?_) (fun c10 => ?_)
        · have c10 := k_eq (a := (u7.1 0).toInt) (b := 0) rfl (by decide) c10
          refine lv_bipush (v := -2) hx hb dX12_row_25 (by decide) ?_
          have kcm2 : (-2 : Int32).toInt = -2 := by decide
          exact rt_i FX ((fun k => match k with | 0 => (-2 : Int32) | _ => 0), (fun k => match k with | 0 => mmany | 1 => mwidth | _ => fun _ => 0), (fun k => match k with | 0 => mnumbers | _ => fun _ => 0)) rfl ⟨i_mmany, i_mwidth, (show (((p1.toInt < 0 ∨ 3 < p1.toInt ∨ p2.toInt < 0 ∨ 3 < p2.toInt ∨ 60 < p3.toInt) ∧ ((-2 : Int32)).toInt = -2) ∨ ((0 ≤ p1.toInt ∧ p1.toInt ≤ 3 ∧ 0 ≤ p2.toInt ∧ p2.toInt ≤ 3 ∧ p3.toInt ≤ 60) ∧ p3.toInt < 0 ∧ ((-2 : Int32)).toInt = -3) ∨ ((0 ≤ p1.toInt ∧ p1.toInt ≤ 3 ∧ 0 ≤ p2.toInt ∧ p2.toInt ≤ 3 ∧ p3.toInt ≤ 60) ∧ 0 ≤ p3.toInt ∧ ((-2 : Int32)).toInt = 0)) by omega), (show ((((-2 : Int32)).toInt = 0 ∧ p1.toInt = 0) ∧ ((mmany) 0).toInt = p3.toInt ∧ ((mwidth) 0).toInt = p2.toInt) ∨ ((((-2 : Int32)).toInt ≠ 0 ∨ p1.toInt ≠ 0) ∧ ((mmany) 0).toInt = (mmany 0).toInt ∧ ((mwidth) 0).toInt = (mwidth 0).toInt) from (by omega)), (show ((((-2 : Int32)).toInt = 0 ∧ p1.toInt = 1) ∧ ((mmany) 1).toInt = p3.toInt ∧ ((mwidth) 1).toInt = p2.toInt) ∨ ((((-2 : Int32)).toInt ≠ 0 ∨ p1.toInt ≠ 1) ∧ ((mmany) 1).toInt = (mmany 1).toInt ∧ ((mwidth) 1).toInt = (mwidth 1).toInt) from (by omega)), (show ((((-2 : Int32)).toInt = 0 ∧ p1.toInt = 2) ∧ ((mmany) 2).toInt = p3.toInt ∧ ((mwidth) 2).toInt = p2.toInt) ∨ ((((-2 : Int32)).toInt ≠ 0 ∨ p1.toInt ≠ 2) ∧ ((mmany) 2).toInt = (mmany 2).toInt ∧ ((mwidth) 2).toInt = (mwidth 2).toInt) from (by omega)), (show ((((-2 : Int32)).toInt = 0 ∧ p1.toInt = 3) ∧ ((mmany) 3).toInt = p3.toInt ∧ ((mwidth) 3).toInt = p2.toInt) ∨ ((((-2 : Int32)).toInt ≠ 0 ∨ p1.toInt ≠ 3) ∧ ((mmany) 3).toInt = (mmany 3).toInt ∧ ((mwidth) 3).toInt = (mwidth 3).toInt) from (by omega))⟩ (hP.sub [0, 1, 2, 3] rfl) (hD.sub [0, 1, 2, 3] (by decide) rfl) hS (Nat.le_of_ble_eq_true rfl) (Nat.le_of_ble_eq_true rfl) dX12_row_27
        · have c10 := k_ne (a := (u7.1 0).toInt) (b := 0) rfl (by decide) c10
          exfalso; omega
      · have c9_r := q8_2 c9
        refine lv_if_eq (tgt := 25) hx hb dX12_row_16 (by decide) (fun c11 => ?_) (fun c11 => ?_)
        · have c11 := k_eq (a := (u7.1 0).toInt) (b := 0) rfl (by decide) c11
          exfalso; omega
        · have c11 := k_ne (a := (u7.1 0).toInt) (b := 0) rfl (by decide) c11
          refine lv_iload_n hx hb dX12_row_19 rfl (lv_at hl 3 rfl) ?_
          refine lv_bipush (v := 60) hx hb dX12_row_20 (by decide) ?_
          refine lv_icmp_le (tgt := 28) hx hb dX12_row_22 (by decide) (fun c12 => ?_) (fun c12 => ?_)
          · have c12 := k_le (a := p3.toInt) (b := 60) rfl (by decide) c12
            refine lv_iload_n hx hb dX12_row_28 rfl (lv_at hl 3 rfl) ?_
            refine lv_if_ge (tgt := 35) hx hb dX12_row_29 (by decide) (fun c13 => ?_) (fun c13 => ?_)
            · have c13 := k_le (a := 0) (b := p3.toInt) (by decide) rfl c13
              refine lv_aload_n hx hb dX12_row_35 rfl (lv_at hl 0 rfl) ?_
              refine g_get (C := RX12) (T := TX12) (N := 29) (ci := 12) (v := .ref a25) FC hKn hP i_X12 0 rfl rfl 25 (by decide) b_934 rfl dX12_row_36 ?_
              refine lv_iload_n hx hb dX12_row_39 rfl (lv_at hl 1 rfl) ?_
              refine lv_iload_n hx hb dX12_row_40 rfl (lv_at hl 3 rfl) ?_
              refine va_iast hx hb hKn.1 hP hD hS 1 0 rfl rfl (vp_in_iff.mpr ⟨by omega, by omega⟩) dX12_row_41 (fun H locs hP hD hS => ?_)
              have hP : va_P g.1 vwCl [(h0, .inr (12, [.int mthrown, .ref a1, .ref a2, .ref a3, .ref a4, .int mtaped, .ref a6, .int msize, .int mat, .int mfrom, .int mtoken, .int mvalue, .int mfaultKind, .int mfaultPlace, .ref a14, .ref a15, .int mgoal, .int mgoalDays, .int mgoalHearer, .ref a19, .ref a20, .int mleastOrder, .int mwordsMany, .ref a23, .ref a24, .ref a25, .ref a26, .ref a27, .ref a28])), (a25, .inl (g.2 0, 4, .inl (upd mmany (p1.toNatClampNeg) p3))), (a26, .inl (g.2 0, 4, .inl mwidth)), (a27, .inl (g.2 3, 240, .inr (.inl mnumbers)))] H := hP
              have hD : va_D A [(h0, .inr (12, [.int mthrown, .ref a1, .ref a2, .ref a3, .ref a4, .int mtaped, .ref a6, .int msize, .int mat, .int mfrom, .int mtoken, .int mvalue, .int mfaultKind, .int mfaultPlace, .ref a14, .ref a15, .int mgoal, .int mgoalDays, .int mgoalHearer, .ref a19, .ref a20, .int mleastOrder, .int mwordsMany, .ref a23, .ref a24, .ref a25, .ref a26, .ref a27, .ref a28])), (a25, .inl (g.2 0, 4, .inl (upd mmany (p1.toNatClampNeg) p3))), (a26, .inl (g.2 0, 4, .inl mwidth)), (a27, .inl (g.2 3, 240, .inr (.inl mnumbers)))] := hD
              have a_f14 : ab (upd mmany (p1.toNatClampNeg) p3) 4 (-1) 60 := ab_upd i_mmany (by omega) (by omega)
              generalize E_f14 : (upd mmany (p1.toNatClampNeg) p3 : Nat → Int32) = f14 at hP hD a_f14
              have g_f14_0 : (p1.toInt = 0 ∧ (f14 0).toInt = p3.toInt) ∨ (p1.toInt ≠ 0 ∧ (f14 0).toInt = (mmany 0).toInt) := by rw [← E_f14]; exact updc (k := 0) (by omega)
              have g_f14_1 : (p1.toInt = 1 ∧ (f14 1).toInt = p3.toInt) ∨ (p1.toInt ≠ 1 ∧ (f14 1).toInt = (mmany 1).toInt) := by rw [← E_f14]; exact updc (k := 1) (by omega)
              have g_f14_2 : (p1.toInt = 2 ∧ (f14 2).toInt = p3.toInt) ∨ (p1.toInt ≠ 2 ∧ (f14 2).toInt = (mmany 2).toInt) := by rw [← E_f14]; exact updc (k := 2) (by omega)
              have g_f14_3 : (p1.toInt = 3 ∧ (f14 3).toInt = p3.toInt) ∨ (p1.toInt ≠ 3 ∧ (f14 3).toInt = (mmany 3).toInt) := by rw [← E_f14]; exact updc (k := 3) (by omega)
              refine lv_aload_n hx hb dX12_row_42 rfl (lv_at hl 0 rfl) ?_
              refine g_get (C := RX12) (T := TX12) (N := 29) (ci := 12) (v := .ref a26) FC hKn hP i_X12 0 rfl rfl 26 (by decide) b_1092 rfl dX12_row_43 ?_
              refine lv_iload_n hx hb dX12_row_46 rfl (lv_at hl 1 rfl) ?_
              refine lv_iload_n hx hb dX12_row_47 rfl (lv_at hl 2 rfl) ?_
              refine va_iast hx hb hKn.1 hP hD hS 2 0 rfl rfl (vp_in_iff.mpr ⟨by omega, by omega⟩) dX12_row_48 (fun H locs hP hD hS => ?_)
              have hP : va_P g.1 vwCl [(h0, .inr (12, [.int mthrown, .ref a1, .ref a2, .ref a3, .ref a4, .int mtaped, .ref a6, .int msize, .int mat, .int mfrom, .int mtoken, .int mvalue, .int mfaultKind, .int mfaultPlace, .ref a14, .ref a15, .int mgoal, .int mgoalDays, .int mgoalHearer, .ref a19, .ref a20, .int mleastOrder, .int mwordsMany, .ref a23, .ref a24, .ref a25, .ref a26, .ref a27, .ref a28])), (a25, .inl (g.2 0, 4, .inl f14)), (a26, .inl (g.2 0, 4, .inl (upd mwidth (p1.toNatClampNeg) p2))), (a27, .inl (g.2 3, 240, .inr (.inl mnumbers)))] H := hP
              have hD : va_D A [(h0, .inr (12, [.int mthrown, .ref a1, .ref a2, .ref a3, .ref a4, .int mtaped, .ref a6, .int msize, .int mat, .int mfrom, .int mtoken, .int mvalue, .int mfaultKind, .int mfaultPlace, .ref a14, .ref a15, .int mgoal, .int mgoalDays, .int mgoalHearer, .ref a19, .ref a20, .int mleastOrder, .int mwordsMany, .ref a23, .ref a24, .ref a25, .ref a26, .ref a27, .ref a28])), (a25, .inl (g.2 0, 4, .inl f14)), (a26, .inl (g.2 0, 4, .inl (upd mwidth (p1.toNatClampNeg) p2))), (a27, .inl (g.2 3, 240, .inr (.inl mnumbers)))] := hD
              have a_f15 : ab (upd mwidth (p1.toNatClampNeg) p2) 4 0 3 := ab_upd i_mwidth (by omega) (by omega)
              generalize E_f15 : (upd mwidth (p1.toNatClampNeg) p2 : Nat → Int32) = f15 at hP hD a_f15
              have g_f15_0 : (p1.toInt = 0 ∧ (f15 0).toInt = p2.toInt) ∨ (p1.toInt ≠ 0 ∧ (f15 0).toInt = (mwidth 0).toInt) := by rw [← E_f15]; exact updc (k := 0) (by omega)
              have g_f15_1 : (p1.toInt = 1 ∧ (f15 1).toInt = p2.toInt) ∨ (p1.toInt ≠ 1 ∧ (f15 1).toInt = (mwidth 1).toInt) := by rw [← E_f15]; exact updc (k := 1) (by omega)
              have g_f15_2 : (p1.toInt = 2 ∧ (f15 2).toInt = p2.toInt) ∨ (p1.toInt ≠ 2 ∧ (f15 2).toInt = (mwidth 2).toInt) := by rw [← E_f15]; exact updc (k := 2) (by omega)
              have g_f15_3 : (p1.toInt = 3 ∧ (f15 3).toInt = p2.toInt) ∨ (p1.toInt ≠ 3 ∧ (f15 3).toInt = (mwidth 3).toInt) := by rw [← E_f15]; exact updc (k := 3) (by omega)
              refine lv_iconst (v := 0) hx hb dX12_row_49 (by decide) ?_
              refine lv_istore (lv' := [(4, .int 0), (0, .ref h0), (1, .int p1), (2, .int p2), (3, .int p3)]) hx hb dX12_row_50 hl (by decide) rfl (fun ls hl => ?_)
              have lp69 : ∀ (n71 : Nat) (x67 : Int32) (x68 : Nat → Int64) (H : Heap) (locs : List Loc) (ls : Array Slot), 0 ≤ x67.toInt ∧ x67.toInt ≤ 60 → (60 - x67.toInt).toNat < n71 → va_P g.1 vwCl [(h0, .inr (12, [.int mthrown, .ref a1, .ref a2, .ref a3, .ref a4, .int mtaped, .ref a6, .int msize, .int mat, .int mfrom, .int mtoken, .int mvalue, .int mfaultKind, .int mfaultPlace, .ref a14, .ref a15, .int mgoal, .int mgoalDays, .int mgoalHearer, .ref a19, .ref a20, .int mleastOrder, .int mwordsMany, .ref a23, .ref a24, .ref a25, .ref a26, .ref a27, .ref a28])), (a25, .inl (g.2 0, 4, .inl f14)), (a26, .inl (g.2 0, 4, .inl f15)), (a27, .inl (g.2 3, 240, .inr (.inl x68)))] H → va_D A [(h0, .inr (12, [.int mthrown, .ref a1, .ref a2, .ref a3, .ref a4, .int mtaped, .ref a6, .int msize, .int mat, .int mfrom, .int mtoken, .int mvalue, .int mfaultKind, .int mfaultPlace, .ref a14, .ref a15, .int mgoal, .int mgoalDays, .int mgoalHearer, .ref a19, .ref a20, .int mleastOrder, .int mwordsMany, .ref a23, .ref a24, .ref a25, .ref a26, .ref a27, .ref a28])), (a25, .inl (g.2 0, 4, .inl f14)), (a26, .inl (g.2 0, 4, .inl f15)), (a27, .inl (g.2 3, 240, .inr (.inl x68)))] → va_S A s.heap H locs → lv_has ls 5 [(4, .int x67), (0, .ref h0), (1, .int p1), (2, .int p2), (3, .int p3)] → W p l e { frames := 2, cells := 0, slots := 0, locals := 45 } s m ([.ref h0, .int p1, .int p2, .int p3].toArray) below meth c H locs 0 0 (MQ below (QX (S := (Nat → Int32) × (Nat → Nat → Int32) × (Nat → Nat → Int64)) (fun u => some (.int (u.1 0))) (fun u => (ab (u.2.1 0) 4 (-1) 60) ∧ (ab (u.2.1 1) 4 0 3) ∧ ((((p1.toInt < 0 ∨ 3 < p1.toInt ∨ p2.toInt < 0 ∨ 3 < p2.toInt ∨ 60 < p3.toInt) ∧ (u.1 0).toInt = -2) ∨ ((0 ≤ p1.toInt ∧ p1.toInt ≤ 3 ∧ 0 ≤ p2.toInt ∧ p2.toInt ≤ 3 ∧ p3.toInt ≤ 60) ∧ p3.toInt < 0 ∧ (u.1 0).toInt = -3) ∨ ((0 ≤ p1.toInt ∧ p1.toInt ≤ 3 ∧ 0 ≤ p2.toInt ∧ p2.toInt ≤ 3 ∧ p3.toInt ≤ 60) ∧ 0 ≤ p3.toInt ∧ (u.1 0).toInt = 0))) ∧ ((((u.1 0).toInt = 0 ∧ p1.toInt = 0) ∧ ((u.2.1 0) 0).toInt = p3.toInt ∧ ((u.2.1 1) 0).toInt = p2.toInt) ∨ (((u.1 0).toInt ≠ 0 ∨ p1.toInt ≠ 0) ∧ ((u.2.1 0) 0).toInt = (mmany 0).toInt ∧ ((u.2.1 1) 0).toInt = (mwidth 0).toInt)) ∧ ((((u.1 0).toInt = 0 ∧ p1.toInt = 1) ∧ ((u.2.1 0) 1).toInt = p3.toInt ∧ ((u.2.1 1) 1).toInt = p2.toInt) ∨ (((u.1 0).toInt ≠ 0 ∨ p1.toInt ≠ 1) ∧ ((u.2.1 0) 1).toInt = (mmany 1).toInt ∧ ((u.2.1 1) 1).toInt = (mwidth 1).toInt)) ∧ ((((u.1 0).toInt = 0 ∧ p1.toInt = 2) ∧ ((u.2.1 0) 2).toInt = p3.toInt ∧ ((u.2.1 1) 2).toInt = p2.toInt) ∨ (((u.1 0).toInt ≠ 0 ∨ p1.toInt ≠ 2) ∧ ((u.2.1 0) 2).toInt = (mmany 2).toInt ∧ ((u.2.1 1) 2).toInt = (mwidth 2).toInt)) ∧ ((((u.1 0).toInt = 0 ∧ p1.toInt = 3) ∧ ((u.2.1 0) 3).toInt = p3.toInt ∧ ((u.2.1 1) 3).toInt = p2.toInt) ∨ (((u.1 0).toInt ≠ 0 ∨ p1.toInt ≠ 3) ∧ ((u.2.1 0) 3).toInt = (mmany 3).toInt ∧ ((u.2.1 1) 3).toInt = (mwidth 3).toInt))) g (fun u => [(h0, .inr (12, [.int mthrown, .ref a1, .ref a2, .ref a3, .ref a4, .int mtaped, .ref a6, .int msize, .int mat, .int mfrom, .int mtoken, .int mvalue, .int mfaultKind, .int mfaultPlace, .ref a14, .ref a15, .int mgoal, .int mgoalDays, .int mgoalHearer, .ref a19, .ref a20, .int mleastOrder, .int mwordsMany, .ref a23, .ref a24, .ref a25, .ref a26, .ref a27, .ref a28])), (a25, .inl (g.2 0, 4, .inl (u.2.1 0))), (a26, .inl (g.2 0, 4, .inl (u.2.1 1))), (a27, .inl (g.2 3, 240, .inr (.inl (u.2.2 0))))]) A) ([.ref h0, .int p1, .int p2, .int p3].toArray) s 0 0 A) (F0 m 52 ls []) := by
                intro n71
                induction n71 with
                | zero =>
                  intro x67 x68 H locs ls h_x67 hn72
                  exact absurd hn72 (Nat.not_lt_zero _)
                | succ n71 ih70 =>
                  intro x67 x68 H locs ls h_x67 hn72 hP hD hS hl
                  refine lv_iload hx hb dX12_row_52 (lv_at hl 0 rfl) ?_
                  refine lv_bipush (v := 60) hx hb dX12_row_54 (by decide) ?_
                  refine lv_icmp_ge (tgt := 78) hx hb dX12_row_56 (by decide) (fun c73 => ?_) (fun c73 => ?_)
                  · have c73 := k_le (a := 60) (b := x67.toInt) (by decide) rfl c73
                    refine lv_iconst (v := 0) hx hb dX12_row_78 (by decide) ?_
                    have kc0 : (0 : Int32).toInt = 0 := by decide
                    exact rt_i FX ((fun k => match k with | 0 => (0 : Int32) | _ => 0), (fun k => match k with | 0 => f14 | 1 => f15 | _ => fun _ => 0), (fun k => match k with | 0 => x68 | _ => fun _ => 0)) rfl ⟨a_f14, a_f15, (show (((p1.toInt < 0 ∨ 3 < p1.toInt ∨ p2.toInt < 0 ∨ 3 < p2.toInt ∨ 60 < p3.toInt) ∧ ((0 : Int32)).toInt = -2) ∨ ((0 ≤ p1.toInt ∧ p1.toInt ≤ 3 ∧ 0 ≤ p2.toInt ∧ p2.toInt ≤ 3 ∧ p3.toInt ≤ 60) ∧ p3.toInt < 0 ∧ ((0 : Int32)).toInt = -3) ∨ ((0 ≤ p1.toInt ∧ p1.toInt ≤ 3 ∧ 0 ≤ p2.toInt ∧ p2.toInt ≤ 3 ∧ p3.toInt ≤ 60) ∧ 0 ≤ p3.toInt ∧ ((0 : Int32)).toInt = 0)) by omega), (show ((((0 : Int32)).toInt = 0 ∧ p1.toInt = 0) ∧ ((f14) 0).toInt = p3.toInt ∧ ((f15) 0).toInt = p2.toInt) ∨ ((((0 : Int32)).toInt ≠ 0 ∨ p1.toInt ≠ 0) ∧ ((f14) 0).toInt = (mmany 0).toInt ∧ ((f15) 0).toInt = (mwidth 0).toInt) from (by omega)), (show ((((0 : Int32)).toInt = 0 ∧ p1.toInt = 1) ∧ ((f14) 1).toInt = p3.toInt ∧ ((f15) 1).toInt = p2.toInt) ∨ ((((0 : Int32)).toInt ≠ 0 ∨ p1.toInt ≠ 1) ∧ ((f14) 1).toInt = (mmany 1).toInt ∧ ((f15) 1).toInt = (mwidth 1).toInt) from (by omega)), (show ((((0 : Int32)).toInt = 0 ∧ p1.toInt = 2) ∧ ((f14) 2).toInt = p3.toInt ∧ ((f15) 2).toInt = p2.toInt) ∨ ((((0 : Int32)).toInt ≠ 0 ∨ p1.toInt ≠ 2) ∧ ((f14) 2).toInt = (mmany 2).toInt ∧ ((f15) 2).toInt = (mwidth 2).toInt) from (by omega)), (show ((((0 : Int32)).toInt = 0 ∧ p1.toInt = 3) ∧ ((f14) 3).toInt = p3.toInt ∧ ((f15) 3).toInt = p2.toInt) ∨ ((((0 : Int32)).toInt ≠ 0 ∨ p1.toInt ≠ 3) ∧ ((f14) 3).toInt = (mmany 3).toInt ∧ ((f15) 3).toInt = (mwidth 3).toInt) from (by omega))⟩ (hP.sub [0, 1, 2, 3] rfl) (hD.sub [0, 1, 2, 3] (by decide) rfl) hS (Nat.le_of_ble_eq_true rfl) (Nat.le_of_ble_eq_true rfl) dX12_row_79
                  · have c73 := k_nle (a := 60) (b := x67.toInt) (by decide) rfl c73
                    refine lv_aload_n hx hb dX12_row_59 rfl (lv_at hl 1 rfl) ?_
                    refine g_get (C := RX12) (T := TX12) (N := 29) (ci := 12) (v := .ref a27) FC hKn hP i_X12 0 rfl rfl 27 (by decide) b_929 rfl dX12_row_60 ?_
                    refine lv_bipush (v := 60) hx hb dX12_row_63 (by decide) ?_
                    refine lv_iload_n hx hb dX12_row_65 rfl (lv_at hl 2 rfl) ?_
                    refine lv_imul hx hb dX12_row_66 ?_
                    have kc60 : (60 : Int32).toInt = 60 := by decide
                    refine lv_topi (fun z74 e_z74 => ?_)
                    have t_z74 : z74.toInt = 60 * p1.toInt := by rw [e_z74, fb_mulI (by rw [show (60 : Int32).toInt = 60 by decide]; omega) (by rw [show (60 : Int32).toInt = 60 by decide]; omega), show (60 : Int32).toInt = 60 by decide]
                    refine lv_iload hx hb dX12_row_67 (lv_at hl 0 rfl) ?_
                    refine lv_iadd hx hb dX12_row_69 ?_
                    refine lv_topi (fun z75 e_z75 => ?_)
                    have t_z75 : z75.toInt = z74.toInt + x67.toInt := by rw [e_z75]; exact fb_addI (by omega) (by omega)
                    refine lv_lconst (v := 0) hx hb dX12_row_70 (by decide) ?_
                    refine va_last hx hb hKn.1 hP hD hS 3 3 rfl rfl (vp_in_iff.mpr ⟨by omega, by omega⟩) dX12_row_71 (fun H locs hP hD hS => ?_)
                    have hP : va_P g.1 vwCl [(h0, .inr (12, [.int mthrown, .ref a1, .ref a2, .ref a3, .ref a4, .int mtaped, .ref a6, .int msize, .int mat, .int mfrom, .int mtoken, .int mvalue, .int mfaultKind, .int mfaultPlace, .ref a14, .ref a15, .int mgoal, .int mgoalDays, .int mgoalHearer, .ref a19, .ref a20, .int mleastOrder, .int mwordsMany, .ref a23, .ref a24, .ref a25, .ref a26, .ref a27, .ref a28])), (a25, .inl (g.2 0, 4, .inl f14)), (a26, .inl (g.2 0, 4, .inl f15)), (a27, .inl (g.2 3, 240, .inr (.inl (vp_updL x68 (z75.toNatClampNeg) 0))))] H := hP
                    have hD : va_D A [(h0, .inr (12, [.int mthrown, .ref a1, .ref a2, .ref a3, .ref a4, .int mtaped, .ref a6, .int msize, .int mat, .int mfrom, .int mtoken, .int mvalue, .int mfaultKind, .int mfaultPlace, .ref a14, .ref a15, .int mgoal, .int mgoalDays, .int mgoalHearer, .ref a19, .ref a20, .int mleastOrder, .int mwordsMany, .ref a23, .ref a24, .ref a25, .ref a26, .ref a27, .ref a28])), (a25, .inl (g.2 0, 4, .inl f14)), (a26, .inl (g.2 0, 4, .inl f15)), (a27, .inl (g.2 3, 240, .inr (.inl (vp_updL x68 (z75.toNatClampNeg) 0))))] := hD
                    generalize (vp_updL x68 (z75.toNatClampNeg) 0 : Nat → Int64) = f76 at hP hD
                    obtain ⟨z77, e_z77⟩ : ∃ y : Int32, y = x67 + 1 := ⟨_, rfl⟩
                    have t_z77 : z77.toInt = x67.toInt + 1 := by rw [e_z77]; exact addk (by decide) (by omega) (by omega)
                    refine lv_iinc (v := z77) (lv' := [(4, .int z77), (0, .ref h0), (1, .int p1), (2, .int p2), (3, .int p3)]) hx hb dX12_row_72 hl (k := 0) rfl (by rw [e_z77]; rfl) (by decide) rfl (fun ls hl => ?_)
                    refine lv_goto (tgt := 52) hx hb dX12_row_75 (by decide) ?_
                    exact ih70 z77 f76 _ _ ls (by omega) (by omega) hP hD hS (lv_sub hl [0, 1, 2, 3, 4] rfl)
              have kc0 : (0 : Int32).toInt = 0 := by decide
              exact lp69 _ (0 : Int32) mnumbers _ _ ls (by decide) (Nat.lt_succ_self _) hP hD hS (lv_sub hl [0, 1, 2, 3, 4] rfl)
            · have c13 := k_nle (a := 0) (b := p3.toInt) (by decide) rfl c13
              refine lv_bipush (v := -3) hx hb dX12_row_32 (by decide) ?_
              have kcm3 : (-3 : Int32).toInt = -3 := by decide
              exact rt_i FX ((fun k => match k with | 0 => (-3 : Int32) | _ => 0), (fun k => match k with | 0 => mmany | 1 => mwidth | _ => fun _ => 0), (fun k => match k with | 0 => mnumbers | _ => fun _ => 0)) rfl ⟨i_mmany, i_mwidth, (show (((p1.toInt < 0 ∨ 3 < p1.toInt ∨ p2.toInt < 0 ∨ 3 < p2.toInt ∨ 60 < p3.toInt) ∧ ((-3 : Int32)).toInt = -2) ∨ ((0 ≤ p1.toInt ∧ p1.toInt ≤ 3 ∧ 0 ≤ p2.toInt ∧ p2.toInt ≤ 3 ∧ p3.toInt ≤ 60) ∧ p3.toInt < 0 ∧ ((-3 : Int32)).toInt = -3) ∨ ((0 ≤ p1.toInt ∧ p1.toInt ≤ 3 ∧ 0 ≤ p2.toInt ∧ p2.toInt ≤ 3 ∧ p3.toInt ≤ 60) ∧ 0 ≤ p3.toInt ∧ ((-3 : Int32)).toInt = 0)) by omega), (show ((((-3 : Int32)).toInt = 0 ∧ p1.toInt = 0) ∧ ((mmany) 0).toInt = p3.toInt ∧ ((mwidth) 0).toInt = p2.toInt) ∨ ((((-3 : Int32)).toInt ≠ 0 ∨ p1.toInt ≠ 0) ∧ ((mmany) 0).toInt = (mmany 0).toInt ∧ ((mwidth) 0).toInt = (mwidth 0).toInt) from (by omega)), (show ((((-3 : Int32)).toInt = 0 ∧ p1.toInt = 1) ∧ ((mmany) 1).toInt = p3.toInt ∧ ((mwidth) 1).toInt = p2.toInt) ∨ ((((-3 : Int32)).toInt ≠ 0 ∨ p1.toInt ≠ 1) ∧ ((mmany) 1).toInt = (mmany 1).toInt ∧ ((mwidth) 1).toInt = (mwidth 1).toInt) from (by omega)), (show ((((-3 : Int32)).toInt = 0 ∧ p1.toInt = 2) ∧ ((mmany) 2).toInt = p3.toInt ∧ ((mwidth) 2).toInt = p2.toInt) ∨ ((((-3 : Int32)).toInt ≠ 0 ∨ p1.toInt ≠ 2) ∧ ((mmany) 2).toInt = (mmany 2).toInt ∧ ((mwidth) 2).toInt = (mwidth 2).toInt) from (by omega)), (show ((((-3 : Int32)).toInt = 0 ∧ p1.toInt = 3) ∧ ((mmany) 3).toInt = p3.toInt ∧ ((mwidth) 3).toInt = p2.toInt) ∨ ((((-3 : Int32)).toInt ≠ 0 ∨ p1.toInt ≠ 3) ∧ ((mmany) 3).toInt = (mmany 3).toInt ∧ ((mwidth) 3).toInt = (mwidth 3).toInt) from (by omega))⟩ (hP.sub [0, 1, 2, 3] rfl) (hD.sub [0, 1, 2, 3] (by decide) rfl) hS (Nat.le_of_ble_eq_true rfl) (Nat.le_of_ble_eq_true rfl) dX12_row_34
          · have c12 := k_nle (a := p3.toInt) (b := 60) rfl (by decide) c12
            refine lv_bipush (v := -2) hx hb dX12_row_25 (by decide) ?_
            have kcm2 : (-2 : Int32).toInt = -2 := by decide
            exact rt_i FX ((fun k => match k with | 0 => (-2 : Int32) | _ => 0), (fun k => match k with | 0 => mmany | 1 => mwidth | _ => fun _ => 0), (fun k => match k with | 0 => mnumbers | _ => fun _ => 0)) rfl ⟨i_mmany, i_mwidth, (show (((p1.toInt < 0 ∨ 3 < p1.toInt ∨ p2.toInt < 0 ∨ 3 < p2.toInt ∨ 60 < p3.toInt) ∧ ((-2 : Int32)).toInt = -2) ∨ ((0 ≤ p1.toInt ∧ p1.toInt ≤ 3 ∧ 0 ≤ p2.toInt ∧ p2.toInt ≤ 3 ∧ p3.toInt ≤ 60) ∧ p3.toInt < 0 ∧ ((-2 : Int32)).toInt = -3) ∨ ((0 ≤ p1.toInt ∧ p1.toInt ≤ 3 ∧ 0 ≤ p2.toInt ∧ p2.toInt ≤ 3 ∧ p3.toInt ≤ 60) ∧ 0 ≤ p3.toInt ∧ ((-2 : Int32)).toInt = 0)) by omega), (show ((((-2 : Int32)).toInt = 0 ∧ p1.toInt = 0) ∧ ((mmany) 0).toInt = p3.toInt ∧ ((mwidth) 0).toInt = p2.toInt) ∨ ((((-2 : Int32)).toInt ≠ 0 ∨ p1.toInt ≠ 0) ∧ ((mmany) 0).toInt = (mmany 0).toInt ∧ ((mwidth) 0).toInt = (mwidth 0).toInt) from (by omega)), (show ((((-2 : Int32)).toInt = 0 ∧ p1.toInt = 1) ∧ ((mmany) 1).toInt = p3.toInt ∧ ((mwidth) 1).toInt = p2.toInt) ∨ ((((-2 : Int32)).toInt ≠ 0 ∨ p1.toInt ≠ 1) ∧ ((mmany) 1).toInt = (mmany 1).toInt ∧ ((mwidth) 1).toInt = (mwidth 1).toInt) from (by omega)), (show ((((-2 : Int32)).toInt = 0 ∧ p1.toInt = 2) ∧ ((mmany) 2).toInt = p3.toInt ∧ ((mwidth) 2).toInt = p2.toInt) ∨ ((((-2 : Int32)).toInt ≠ 0 ∨ p1.toInt ≠ 2) ∧ ((mmany) 2).toInt = (mmany 2).toInt ∧ ((mwidth) 2).toInt = (mwidth 2).toInt) from (by omega)), (show ((((-2 : Int32)).toInt = 0 ∧ p1.toInt = 3) ∧ ((mmany) 3).toInt = p3.toInt ∧ ((mwidth) 3).toInt = p2.toInt) ∨ ((((-2 : Int32)).toInt ≠ 0 ∨ p1.toInt ≠ 3) ∧ ((mmany) 3).toInt = (mmany 3).toInt ∧ ((mwidth) 3).toInt = (mwidth 3).toInt) from (by omega))⟩ (hP.sub [0, 1, 2, 3] rfl) (hD.sub [0, 1, 2, 3] (by decide) rfl) hS (Nat.le_of_ble_eq_true rfl) (Nat.le_of_ble_eq_true rfl) dX12_row_27
set_option maxRecDepth 100000 in
set_option maxHeartbeats 4000000 in
theorem k_X12_write (l : Launch) (g : GG) (h0 : Nat) (a1 : Nat) (a2 : Nat) (a3 : Nat) (a4 : Nat) (a6 : Nat) (a14 : Nat) (a15 : Nat) (a19 : Nat) (a20 : Nat) (a23 : Nat) (a24 : Nat) (a25 : Nat) (a26 : Nat) (a27 : Nat) (a28 : Nat) (mthrown : Int32) (mtaped : Int32) (msize : Int32) (mat : Int32) (mfrom : Int32) (mtoken : Int32) (mvalue : Int32) (mfaultKind : Int32) (mfaultPlace : Int32) (mgoal : Int32) (mgoalDays : Int32) (mgoalHearer : Int32) (mleastOrder : Int32) (mwordsMany : Int32) (mmany : Nat → Int32) (mwidth : Nat → Int32) (mnumbers : Nat → Int64) (p1 : Int32) (p2 : Int32) (p3 : Int64) (i_mtaped : 0 ≤ mtaped.toInt ∧ mtaped.toInt ≤ 900) (i_msize : 0 ≤ msize.toInt ∧ msize.toInt ≤ 900) (i_mat : 0 ≤ mat.toInt ∧ mat.toInt ≤ 900) (i_mfrom : 0 ≤ mfrom.toInt ∧ mfrom.toInt ≤ 900) (i_mtoken : 0 ≤ mtoken.toInt ∧ mtoken.toInt ≤ 4) (i_mvalue : 0 ≤ mvalue.toInt ∧ mvalue.toInt ≤ 99999) (i_mgoalHearer : 0 ≤ mgoalHearer.toInt ∧ mgoalHearer.toInt ≤ 3) (i_mwordsMany : 0 ≤ mwordsMany.toInt ∧ mwordsMany.toInt ≤ 10) (i_mmany : ab mmany 4 (-1) 60) (i_mwidth : ab mwidth 4 0 3) : Ct l g yX12_write cX12_write 5 (some .int) { frames := 2, cells := 0, slots := 0, locals := 45 } [.ref h0, .int p1, .int p2, .long p3] [(h0, .inr (12, [.int mthrown, .ref a1, .ref a2, .ref a3, .ref a4, .int mtaped, .ref a6, .int msize, .int mat, .int mfrom, .int mtoken, .int mvalue, .int mfaultKind, .int mfaultPlace, .ref a14, .ref a15, .int mgoal, .int mgoalDays, .int mgoalHearer, .ref a19, .ref a20, .int mleastOrder, .int mwordsMany, .ref a23, .ref a24, .ref a25, .ref a26, .ref a27, .ref a28])), (a25, .inl (g.2 0, 4, .inl mmany)), (a26, .inl (g.2 0, 4, .inl mwidth)), (a27, .inl (g.2 3, 240, .inr (.inl mnumbers)))] (S := (Nat → Int32) × (Nat → Nat → Int32) × (Nat → Nat → Int64)) (fun u => some (.int (u.1 0))) (fun u => (((p1.toInt < 0 ∨ 3 < p1.toInt) ∧ (u.1 0).toInt = -2) ∨ ((0 ≤ p1.toInt ∧ p1.toInt ≤ 3) ∧ (((mmany p1.toNatClampNeg).toInt = -1 ∧ (u.1 0).toInt = -6) ∨ (¬ ((mmany p1.toNatClampNeg).toInt = -1) ∧ (p2.toInt < 0 ∨ (mmany p1.toNatClampNeg).toInt ≤ p2.toInt) ∧ (u.1 0).toInt = -7) ∨ (¬ ((mmany p1.toNatClampNeg).toInt = -1) ∧ 0 ≤ p2.toInt ∧ p2.toInt < (mmany p1.toNatClampNeg).toInt ∧ (u.1 0).toInt = 0))))) (fun u => [(h0, .inr (12, [.int mthrown, .ref a1, .ref a2, .ref a3, .ref a4, .int mtaped, .ref a6, .int msize, .int mat, .int mfrom, .int mtoken, .int mvalue, .int mfaultKind, .int mfaultPlace, .ref a14, .ref a15, .int mgoal, .int mgoalDays, .int mgoalHearer, .ref a19, .ref a20, .int mleastOrder, .int mwordsMany, .ref a23, .ref a24, .ref a25, .ref a26, .ref a27, .ref a28])), (a25, .inl (g.2 0, 4, .inl mmany)), (a26, .inl (g.2 0, 4, .inl mwidth)), (a27, .inl (g.2 3, 240, .inr (.inl (u.2.2 0))))]) := by
  refine Ct.of (by decide) (Nat.le_of_ble_eq_true rfl) ?_
  intro p e s m below meth c A ls FX hP hD hS hl
  obtain ⟨FC, hr, hlk, hKn, hA, hnm, hZ⟩ := id FX
  have FC : CallFix p m c cX12_write 5 s _ BIG RX12 := FC
  obtain ⟨hx, hb, hml, hown, hB⟩ := id FC
  have hl : lv_has ls 5 [(0, .ref h0), (1, .int p1), (2, .int p2), (3, .long p3)] := hl
  refine lv_iload_n hx hb dX12_write_0 rfl (lv_at hl 1 rfl) ?_
  refine call_S (As := [.int p1]) (rest := []) (wr := [(h0, .inr (12, [.int mthrown, .ref a1, .ref a2, .ref a3, .ref a4, .int mtaped, .ref a6, .int msize, .int mat, .int mfrom, .int mtoken, .int mvalue, .int mfaultKind, .int mfaultPlace, .ref a14, .ref a15, .int mgoal, .int mgoalDays, .int mgoalHearer, .ref a19, .ref a20, .int mleastOrder, .int mwordsMany, .ref a23, .ref a24, .ref a25, .ref a26, .ref a27, .ref a28])), (a25, .inl (g.2 0, 4, .inl mmany)), (a26, .inl (g.2 0, 4, .inl mwidth)), (a27, .inl (g.2 3, 240, .inr (.inl mnumbers)))]) FC hKn hZ (k_X12_isSlot l g p1) m_yX12_isSlot b_933 hP hD hS hA [] [0, 1, 2, 3] rfl (by decide) rfl (by decide) (by decide) rfl hl.1 rfl (Nat.le_of_ble_eq_true rfl) dX12_write_1 ⟨(Nat.le_of_ble_eq_true rfl), (Nat.le_of_ble_eq_true rfl)⟩ ⟨(Nat.le_of_ble_eq_true rfl), (Nat.le_of_ble_eq_true rfl)⟩ (fun u1 H locs q2 hP hD hS => ?_)
  obtain ⟨q2_0, q2_1, q2_2⟩ := q2
  have hP : va_P g.1 vwCl [(h0, .inr (12, [.int mthrown, .ref a1, .ref a2, .ref a3, .ref a4, .int mtaped, .ref a6, .int msize, .int mat, .int mfrom, .int mtoken, .int mvalue, .int mfaultKind, .int mfaultPlace, .ref a14, .ref a15, .int mgoal, .int mgoalDays, .int mgoalHearer, .ref a19, .ref a20, .int mleastOrder, .int mwordsMany, .ref a23, .ref a24, .ref a25, .ref a26, .ref a27, .ref a28])), (a25, .inl (g.2 0, 4, .inl mmany)), (a26, .inl (g.2 0, 4, .inl mwidth)), (a27, .inl (g.2 3, 240, .inr (.inl mnumbers)))] H := hP
  have hD : va_D A [(h0, .inr (12, [.int mthrown, .ref a1, .ref a2, .ref a3, .ref a4, .int mtaped, .ref a6, .int msize, .int mat, .int mfrom, .int mtoken, .int mvalue, .int mfaultKind, .int mfaultPlace, .ref a14, .ref a15, .int mgoal, .int mgoalDays, .int mgoalHearer, .ref a19, .ref a20, .int mleastOrder, .int mwordsMany, .ref a23, .ref a24, .ref a25, .ref a26, .ref a27, .ref a28])), (a25, .inl (g.2 0, 4, .inl mmany)), (a26, .inl (g.2 0, 4, .inl mwidth)), (a27, .inl (g.2 3, 240, .inr (.inl mnumbers)))] := hD
  refine W.eq (g2 := F0 m 4 ls [.int (u1.1 0)]) rfl ?_
  rcases (show (u1.1 0).toInt = 0 ∨ (u1.1 0).toInt = 1 by omega) with c3 | c3
  · skip
    refine lv_if_ne (tgt := 10) hx hb dX12_write_4 (by decide) (fun c4 => ?_) (fun c4 => ?_)
    · have c4 := k_ne (a := (u1.1 0).toInt) (b := 0) rfl (by decide) c4
      exfalso; omega
    · have c4 := k_eq (a := (u1.1 0).toInt) (b := 0) rfl (by decide) c4
      refine lv_bipush (v := -2) hx hb dX12_write_7 (by decide) ?_
      have kcm2 : (-2 : Int32).toInt = -2 := by decide
      exact rt_i FX ((fun k => match k with | 0 => (-2 : Int32) | _ => 0), (fun _ => fun _ => 0), (fun k => match k with | 0 => mnumbers | _ => fun _ => 0)) rfl (show ((p1.toInt < 0 ∨ 3 < p1.toInt) ∧ ((-2 : Int32)).toInt = -2) ∨ ((0 ≤ p1.toInt ∧ p1.toInt ≤ 3) ∧ (((mmany p1.toNatClampNeg).toInt = -1 ∧ ((-2 : Int32)).toInt = -6) ∨ (¬ ((mmany p1.toNatClampNeg).toInt = -1) ∧ (p2.toInt < 0 ∨ (mmany p1.toNatClampNeg).toInt ≤ p2.toInt) ∧ ((-2 : Int32)).toInt = -7) ∨ (¬ ((mmany p1.toNatClampNeg).toInt = -1) ∧ 0 ≤ p2.toInt ∧ p2.toInt < (mmany p1.toNatClampNeg).toInt ∧ ((-2 : Int32)).toInt = 0))) by omega) (hP.sub [0, 1, 2, 3] rfl) (hD.sub [0, 1, 2, 3] (by decide) rfl) hS (Nat.le_of_ble_eq_true rfl) (Nat.le_of_ble_eq_true rfl) dX12_write_9
  · have c3_r := q2_2 c3
    refine lv_if_ne (tgt := 10) hx hb dX12_write_4 (by decide) (fun c5 => ?_) (fun c5 => ?_)
    · have c5 := k_ne (a := (u1.1 0).toInt) (b := 0) rfl (by decide) c5
      refine lv_aload_n hx hb dX12_write_10 rfl (lv_at hl 0 rfl) ?_
      refine g_get (C := RX12) (T := TX12) (N := 29) (ci := 12) (v := .ref a25) FC hKn hP i_X12 0 rfl rfl 25 (by decide) b_934 rfl dX12_write_11 ?_
      refine lv_iload_n hx hb dX12_write_14 rfl (lv_at hl 1 rfl) ?_
      refine va_iald hx hb hKn.1 hP 1 0 rfl rfl (vp_in_iff.mpr ⟨by omega, by omega⟩) dX12_write_15 ?_
      refine lv_topi (fun z6 e_z6 => ?_)
      have t_z6 : -1 ≤ z6.toInt ∧ z6.toInt ≤ 60 := by rw [e_z6]; exact i_mmany _ (clt (by omega) (by omega))
      have q_z6 : z6.toInt = (mmany p1.toNatClampNeg).toInt := by rw [e_z6]
      refine lv_iconst (v := -1) hx hb dX12_write_16 (by decide) ?_
      refine lv_icmp_ne (tgt := 23) hx hb dX12_write_17 (by decide) (fun c7 => ?_) (fun c7 => ?_)
      · have c7 := k_ne (a := z6.toInt) (b := -1) rfl (by decide) c7
        refine lv_iload_n hx hb dX12_write_23 rfl (lv_at hl 2 rfl) ?_
        refine lv_i2l (v := p2.toInt64) hx hb dX12_write_24 rfl ?_
        refine lv_topl (fun z8 e_z8 => ?_)
        have t_z8 : z8.toInt = p2.toInt := by rw [e_z8]; exact Int32.toInt_toInt64 _
        refine lv_lconst (v := 0) hx hb dX12_write_25 (by decide) ?_
        refine lv_aload_n hx hb dX12_write_26 rfl (lv_at hl 0 rfl) ?_
        refine g_get (C := RX12) (T := TX12) (N := 29) (ci := 12) (v := .ref a25) FC hKn hP i_X12 0 rfl rfl 25 (by decide) b_934 rfl dX12_write_27 ?_
        refine lv_iload_n hx hb dX12_write_30 rfl (lv_at hl 1 rfl) ?_
        refine va_iald hx hb hKn.1 hP 1 0 rfl rfl (vp_in_iff.mpr ⟨by omega, by omega⟩) dX12_write_31 ?_
        refine tp_i (v := z6) e_z6.symm ?_
        refine lv_iconst (v := 1) hx hb dX12_write_32 (by decide) ?_
        refine lv_isub hx hb dX12_write_33 ?_
        have kc1 : (1 : Int32).toInt = 1 := by decide
        refine lv_topi (fun z9 e_z9 => ?_)
        have t_z9 : z9.toInt = z6.toInt - ((1 : Int32)).toInt := by rw [e_z9]; exact fb_subI (by omega) (by omega)
        refine lv_i2l (v := z9.toInt64) hx hb dX12_write_34 rfl ?_
        refine lv_topl (fun z10 e_z10 => ?_)
        have t_z10 : z10.toInt = z9.toInt := by rw [e_z10]; exact Int32.toInt_toInt64 _
        have kcl0 : (0 : Int64).toInt = 0 := by decide
        refine call_S (As := [.long z8, .long 0, .long z10]) (rest := []) (wr := [(h0, .inr (12, [.int mthrown, .ref a1, .ref a2, .ref a3, .ref a4, .int mtaped, .ref a6, .int msize, .int mat, .int mfrom, .int mtoken, .int mvalue, .int mfaultKind, .int mfaultPlace, .ref a14, .ref a15, .int mgoal, .int mgoalDays, .int mgoalHearer, .ref a19, .ref a20, .int mleastOrder, .int mwordsMany, .ref a23, .ref a24, .ref a25, .ref a26, .ref a27, .ref a28])), (a25, .inl (g.2 0, 4, .inl mmany)), (a26, .inl (g.2 0, 4, .inl mwidth)), (a27, .inl (g.2 3, 240, .inr (.inl mnumbers)))]) FC hKn hZ (k_X12_in l g z8 ((0 : Int64)) z10) m_yX12_in b_802 hP hD hS hA [] [0, 1, 2, 3] rfl (by decide) rfl (by decide) (by decide) rfl hl.1 rfl (Nat.le_of_ble_eq_true rfl) dX12_write_35 ⟨(Nat.le_of_ble_eq_true rfl), (Nat.le_of_ble_eq_true rfl)⟩ ⟨(Nat.le_of_ble_eq_true rfl), (Nat.le_of_ble_eq_true rfl)⟩ (fun u11 H locs q12 hP hD hS => ?_)
        obtain ⟨q12_0, q12_1, q12_2⟩ := q12
        have hP : va_P g.1 vwCl [(h0, .inr (12, [.int mthrown, .ref a1, .ref a2, .ref a3, .ref a4, .int mtaped, .ref a6, .int msize, .int mat, .int mfrom, .int mtoken, .int mvalue, .int mfaultKind, .int mfaultPlace, .ref a14, .ref a15, .int mgoal, .int mgoalDays, .int mgoalHearer, .ref a19, .ref a20, .int mleastOrder, .int mwordsMany, .ref a23, .ref a24, .ref a25, .ref a26, .ref a27, .ref a28])), (a25, .inl (g.2 0, 4, .inl mmany)), (a26, .inl (g.2 0, 4, .inl mwidth)), (a27, .inl (g.2 3, 240, .inr (.inl mnumbers)))] H := hP
        have hD : va_D A [(h0, .inr (12, [.int mthrown, .ref a1, .ref a2, .ref a3, .ref a4, .int mtaped, .ref a6, .int msize, .int mat, .int mfrom, .int mtoken, .int mvalue, .int mfaultKind, .int mfaultPlace, .ref a14, .ref a15, .int mgoal, .int mgoalDays, .int mgoalHearer, .ref a19, .ref a20, .int mleastOrder, .int mwordsMany, .ref a23, .ref a24, .ref a25, .ref a26, .ref a27, .ref a28])), (a25, .inl (g.2 0, 4, .inl mmany)), (a26, .inl (g.2 0, 4, .inl mwidth)), (a27, .inl (g.2 3, 240, .inr (.inl mnumbers)))] := hD
        refine W.eq (g2 := F0 m 38 ls [.int (u11.1 0)]) rfl ?_
        rcases (show (u11.1 0).toInt = 0 ∨ (u11.1 0).toInt = 1 by omega) with c13 | c13
        · skip
          refine lv_if_ne (tgt := 44) hx hb dX12_write_38 (by decide) (fun c14 => ?_) (fun c14 => ?_)
          · have c14 := k_ne (a := (u11.1 0).toInt) (b := 0) rfl (by decide) c14
            exfalso; omega
          · have c14 := k_eq (a := (u11.1 0).toInt) (b := 0) rfl (by decide) c14
            refine lv_bipush (v := -7) hx hb dX12_write_41 (by decide) ?_
            have kcm7 : (-7 : Int32).toInt = -7 := by decide
            exact rt_i FX ((fun k => match k with | 0 => (-7 : Int32) | _ => 0), (fun _ => fun _ => 0), (fun k => match k with | 0 => mnumbers | _ => fun _ => 0)) rfl (show ((p1.toInt < 0 ∨ 3 < p1.toInt) ∧ ((-7 : Int32)).toInt = -2) ∨ ((0 ≤ p1.toInt ∧ p1.toInt ≤ 3) ∧ (((mmany p1.toNatClampNeg).toInt = -1 ∧ ((-7 : Int32)).toInt = -6) ∨ (¬ ((mmany p1.toNatClampNeg).toInt = -1) ∧ (p2.toInt < 0 ∨ (mmany p1.toNatClampNeg).toInt ≤ p2.toInt) ∧ ((-7 : Int32)).toInt = -7) ∨ (¬ ((mmany p1.toNatClampNeg).toInt = -1) ∧ 0 ≤ p2.toInt ∧ p2.toInt < (mmany p1.toNatClampNeg).toInt ∧ ((-7 : Int32)).toInt = 0))) by omega) (hP.sub [0, 1, 2, 3] rfl) (hD.sub [0, 1, 2, 3] (by decide) rfl) hS (Nat.le_of_ble_eq_true rfl) (Nat.le_of_ble_eq_true rfl) dX12_write_43
        · have c13_r := q12_2 c13
          refine lv_if_ne (tgt := 44) hx hb dX12_write_38 (by decide) (fun c15 => ?_) (fun c15 => ?_)
          · have c15 := k_ne (a := (u11.1 0).toInt) (b := 0) rfl (by decide) c15
            refine lv_aload_n hx hb dX12_write_44 rfl (lv_at hl 0 rfl) ?_
            refine g_get (C := RX12) (T := TX12) (N := 29) (ci := 12) (v := .ref a27) FC hKn hP i_X12 0 rfl rfl 27 (by decide) b_929 rfl dX12_write_45 ?_
            refine lv_bipush (v := 60) hx hb dX12_write_48 (by decide) ?_
            refine lv_iload_n hx hb dX12_write_50 rfl (lv_at hl 1 rfl) ?_
            refine lv_imul hx hb dX12_write_51 ?_
            have kc60 : (60 : Int32).toInt = 60 := by decide
            refine lv_topi (fun z16 e_z16 => ?_)
            have t_z16 : z16.toInt = 60 * p1.toInt := by rw [e_z16, fb_mulI (by rw [show (60 : Int32).toInt = 60 by decide]; omega) (by rw [show (60 : Int32).toInt = 60 by decide]; omega), show (60 : Int32).toInt = 60 by decide]
            refine lv_iload_n hx hb dX12_write_52 rfl (lv_at hl 2 rfl) ?_
            refine lv_iadd hx hb dX12_write_53 ?_
            refine lv_topi (fun z17 e_z17 => ?_)
            have t_z17 : z17.toInt = z16.toInt + p2.toInt := by rw [e_z17]; exact fb_addI (by omega) (by omega)
            refine lv_lload_n hx hb dX12_write_54 rfl (lv_at hl 3 rfl) ?_
            refine lv_aload_n hx hb dX12_write_55 rfl (lv_at hl 0 rfl) ?_
            refine g_get (C := RX12) (T := TX12) (N := 29) (ci := 12) (v := .ref a26) FC hKn hP i_X12 0 rfl rfl 26 (by decide) b_1092 rfl dX12_write_56 ?_
            refine lv_iload_n hx hb dX12_write_59 rfl (lv_at hl 1 rfl) ?_
            refine va_iald hx hb hKn.1 hP 2 0 rfl rfl (vp_in_iff.mpr ⟨by omega, by omega⟩) dX12_write_60 ?_
            refine lv_topi (fun z18 e_z18 => ?_)
            have t_z18 : 0 ≤ z18.toInt ∧ z18.toInt ≤ 3 := by rw [e_z18]; exact i_mwidth _ (clt (by omega) (by omega))
            refine call_S (As := [.long p3, .int z18]) (rest := [.int z17, .ref a27]) (wr := [(h0, .inr (12, [.int mthrown, .ref a1, .ref a2, .ref a3, .ref a4, .int mtaped, .ref a6, .int msize, .int mat, .int mfrom, .int mtoken, .int mvalue, .int mfaultKind, .int mfaultPlace, .ref a14, .ref a15, .int mgoal, .int mgoalDays, .int mgoalHearer, .ref a19, .ref a20, .int mleastOrder, .int mwordsMany, .ref a23, .ref a24, .ref a25, .ref a26, .ref a27, .ref a28])), (a25, .inl (g.2 0, 4, .inl mmany)), (a26, .inl (g.2 0, 4, .inl mwidth)), (a27, .inl (g.2 3, 240, .inr (.inl mnumbers)))]) FC hKn hZ (k_X12_cut l g p3 z18 (by omega)) m_yX12_cut b_1093 hP hD hS hA [] [0, 1, 2, 3] rfl (by decide) rfl (by decide) (by decide) rfl hl.1 rfl (Nat.le_of_ble_eq_true rfl) dX12_write_61 ⟨(Nat.le_of_ble_eq_true rfl), (Nat.le_of_ble_eq_true rfl)⟩ ⟨(Nat.le_of_ble_eq_true rfl), (Nat.le_of_ble_eq_true rfl)⟩ (fun u19 H locs q20 hP hD hS => ?_)
            have hP : va_P g.1 vwCl [(h0, .inr (12, [.int mthrown, .ref a1, .ref a2, .ref a3, .ref a4, .int mtaped, .ref a6, .int msize, .int mat, .int mfrom, .int mtoken, .int mvalue, .int mfaultKind, .int mfaultPlace, .ref a14, .ref a15, .int mgoal, .int mgoalDays, .int mgoalHearer, .ref a19, .ref a20, .int mleastOrder, .int mwordsMany, .ref a23, .ref a24, .ref a25, .ref a26, .ref a27, .ref a28])), (a25, .inl (g.2 0, 4, .inl mmany)), (a26, .inl (g.2 0, 4, .inl mwidth)), (a27, .inl (g.2 3, 240, .inr (.inl mnumbers)))] H := hP
            have hD : va_D A [(h0, .inr (12, [.int mthrown, .ref a1, .ref a2, .ref a3, .ref a4, .int mtaped, .ref a6, .int msize, .int mat, .int mfrom, .int mtoken, .int mvalue, .int mfaultKind, .int mfaultPlace, .ref a14, .ref a15, .int mgoal, .int mgoalDays, .int mgoalHearer, .ref a19, .ref a20, .int mleastOrder, .int mwordsMany, .ref a23, .ref a24, .ref a25, .ref a26, .ref a27, .ref a28])), (a25, .inl (g.2 0, 4, .inl mmany)), (a26, .inl (g.2 0, 4, .inl mwidth)), (a27, .inl (g.2 3, 240, .inr (.inl mnumbers)))] := hD
            refine W.eq (g2 := F0 m 64 ls [.long (u19.2.2 9 0), .int z17, .ref a27]) rfl ?_
            refine va_last hx hb hKn.1 hP hD hS 3 3 rfl rfl (vp_in_iff.mpr ⟨by omega, by omega⟩) dX12_write_64 (fun H locs hP hD hS => ?_)
            have hP : va_P g.1 vwCl [(h0, .inr (12, [.int mthrown, .ref a1, .ref a2, .ref a3, .ref a4, .int mtaped, .ref a6, .int msize, .int mat, .int mfrom, .int mtoken, .int mvalue, .int mfaultKind, .int mfaultPlace, .ref a14, .ref a15, .int mgoal, .int mgoalDays, .int mgoalHearer, .ref a19, .ref a20, .int mleastOrder, .int mwordsMany, .ref a23, .ref a24, .ref a25, .ref a26, .ref a27, .ref a28])), (a25, .inl (g.2 0, 4, .inl mmany)), (a26, .inl (g.2 0, 4, .inl mwidth)), (a27, .inl (g.2 3, 240, .inr (.inl (vp_updL mnumbers (z17.toNatClampNeg) (u19.2.2 9 0)))))] H := hP
            have hD : va_D A [(h0, .inr (12, [.int mthrown, .ref a1, .ref a2, .ref a3, .ref a4, .int mtaped, .ref a6, .int msize, .int mat, .int mfrom, .int mtoken, .int mvalue, .int mfaultKind, .int mfaultPlace, .ref a14, .ref a15, .int mgoal, .int mgoalDays, .int mgoalHearer, .ref a19, .ref a20, .int mleastOrder, .int mwordsMany, .ref a23, .ref a24, .ref a25, .ref a26, .ref a27, .ref a28])), (a25, .inl (g.2 0, 4, .inl mmany)), (a26, .inl (g.2 0, 4, .inl mwidth)), (a27, .inl (g.2 3, 240, .inr (.inl (vp_updL mnumbers (z17.toNatClampNeg) (u19.2.2 9 0)))))] := hD
            generalize (vp_updL mnumbers (z17.toNatClampNeg) (u19.2.2 9 0) : Nat → Int64) = f21 at hP hD
            refine lv_iconst (v := 0) hx hb dX12_write_65 (by decide) ?_
            have kc0 : (0 : Int32).toInt = 0 := by decide
            exact rt_i FX ((fun k => match k with | 0 => (0 : Int32) | _ => 0), (fun _ => fun _ => 0), (fun k => match k with | 0 => f21 | _ => fun _ => 0)) rfl (show ((p1.toInt < 0 ∨ 3 < p1.toInt) ∧ ((0 : Int32)).toInt = -2) ∨ ((0 ≤ p1.toInt ∧ p1.toInt ≤ 3) ∧ (((mmany p1.toNatClampNeg).toInt = -1 ∧ ((0 : Int32)).toInt = -6) ∨ (¬ ((mmany p1.toNatClampNeg).toInt = -1) ∧ (p2.toInt < 0 ∨ (mmany p1.toNatClampNeg).toInt ≤ p2.toInt) ∧ ((0 : Int32)).toInt = -7) ∨ (¬ ((mmany p1.toNatClampNeg).toInt = -1) ∧ 0 ≤ p2.toInt ∧ p2.toInt < (mmany p1.toNatClampNeg).toInt ∧ ((0 : Int32)).toInt = 0))) by omega) (hP.sub [0, 1, 2, 3] rfl) (hD.sub [0, 1, 2, 3] (by decide) rfl) hS (Nat.le_of_ble_eq_true rfl) (Nat.le_of_ble_eq_true rfl) dX12_write_66
          · have c15 := k_eq (a := (u11.1 0).toInt) (b := 0) rfl (by decide) c15
            exfalso; omega
      · have c7 := k_eq (a := z6.toInt) (b := -1) rfl (by decide) c7
        refine lv_bipush (v := -6) hx hb dX12_write_20 (by decide) ?_
        have kcm6 : (-6 : Int32).toInt = -6 := by decide
        exact rt_i FX ((fun k => match k with | 0 => (-6 : Int32) | _ => 0), (fun _ => fun _ => 0), (fun k => match k with | 0 => mnumbers | _ => fun _ => 0)) rfl (show ((p1.toInt < 0 ∨ 3 < p1.toInt) ∧ ((-6 : Int32)).toInt = -2) ∨ ((0 ≤ p1.toInt ∧ p1.toInt ≤ 3) ∧ (((mmany p1.toNatClampNeg).toInt = -1 ∧ ((-6 : Int32)).toInt = -6) ∨ (¬ ((mmany p1.toNatClampNeg).toInt = -1) ∧ (p2.toInt < 0 ∨ (mmany p1.toNatClampNeg).toInt ≤ p2.toInt) ∧ ((-6 : Int32)).toInt = -7) ∨ (¬ ((mmany p1.toNatClampNeg).toInt = -1) ∧ 0 ≤ p2.toInt ∧ p2.toInt < (mmany p1.toNatClampNeg).toInt ∧ ((-6 : Int32)).toInt = 0))) by omega) (hP.sub [0, 1, 2, 3] rfl) (hD.sub [0, 1, 2, 3] (by decide) rfl) hS (Nat.le_of_ble_eq_true rfl) (Nat.le_of_ble_eq_true rfl) dX12_write_22
    · have c5 := k_eq (a := (u1.1 0).toInt) (b := 0) rfl (by decide) c5
      exfalso; omega
set_option maxRecDepth 100000 in
set_option maxHeartbeats 4000000 in
theorem k_X12_paste (l : Launch) (g : GG) (h0 : Nat) (a1 : Nat) (a2 : Nat) (a3 : Nat) (a4 : Nat) (a6 : Nat) (a14 : Nat) (a15 : Nat) (a19 : Nat) (a20 : Nat) (a23 : Nat) (a24 : Nat) (a25 : Nat) (a26 : Nat) (a27 : Nat) (a28 : Nat) (mthrown : Int32) (mtaped : Int32) (msize : Int32) (mat : Int32) (mfrom : Int32) (mtoken : Int32) (mvalue : Int32) (mfaultKind : Int32) (mfaultPlace : Int32) (mgoal : Int32) (mgoalDays : Int32) (mgoalHearer : Int32) (mleastOrder : Int32) (mwordsMany : Int32) (mmany : Nat → Int32) (mwidth : Nat → Int32) (mnumbers : Nat → Int64) (mmoving : Nat → Int64) (p1 : Int32) (p2 : Int32) (p3 : Int32) (p4 : Int32) (p5 : Int32) (i_mtaped : 0 ≤ mtaped.toInt ∧ mtaped.toInt ≤ 900) (i_msize : 0 ≤ msize.toInt ∧ msize.toInt ≤ 900) (i_mat : 0 ≤ mat.toInt ∧ mat.toInt ≤ 900) (i_mfrom : 0 ≤ mfrom.toInt ∧ mfrom.toInt ≤ 900) (i_mtoken : 0 ≤ mtoken.toInt ∧ mtoken.toInt ≤ 4) (i_mvalue : 0 ≤ mvalue.toInt ∧ mvalue.toInt ≤ 99999) (i_mgoalHearer : 0 ≤ mgoalHearer.toInt ∧ mgoalHearer.toInt ≤ 3) (i_mwordsMany : 0 ≤ mwordsMany.toInt ∧ mwordsMany.toInt ≤ 10) (i_mmany : ab mmany 4 (-1) 60) (i_mwidth : ab mwidth 4 0 3) : Ct l g yX12_paste cX12_paste 7 (some .int) { frames := 2, cells := 0, slots := 0, locals := 45 } [.ref h0, .int p1, .int p2, .int p3, .int p4, .int p5] [(h0, .inr (12, [.int mthrown, .ref a1, .ref a2, .ref a3, .ref a4, .int mtaped, .ref a6, .int msize, .int mat, .int mfrom, .int mtoken, .int mvalue, .int mfaultKind, .int mfaultPlace, .ref a14, .ref a15, .int mgoal, .int mgoalDays, .int mgoalHearer, .ref a19, .ref a20, .int mleastOrder, .int mwordsMany, .ref a23, .ref a24, .ref a25, .ref a26, .ref a27, .ref a28])), (a25, .inl (g.2 0, 4, .inl mmany)), (a26, .inl (g.2 0, 4, .inl mwidth)), (a27, .inl (g.2 3, 240, .inr (.inl mnumbers))), (a28, .inl (g.2 3, 60, .inr (.inl mmoving)))] (S := (Nat → Int32) × (Nat → Nat → Int32) × (Nat → Nat → Int64)) (fun u => some (.int (u.1 0))) (fun u => ((((p1.toInt < 0 ∨ 3 < p1.toInt) ∨ (p3.toInt < 0 ∨ 3 < p3.toInt)) ∧ (u.1 0).toInt = -2) ∨ ((0 ≤ p1.toInt ∧ p1.toInt ≤ 3) ∧ (0 ≤ p3.toInt ∧ p3.toInt ≤ 3) ∧ ((((mmany p1.toNatClampNeg).toInt = -1 ∨ (mmany p3.toNatClampNeg).toInt = -1) ∧ (u.1 0).toInt = -6) ∨ (¬ ((mmany p1.toNatClampNeg).toInt = -1) ∧ ¬ ((mmany p3.toNatClampNeg).toInt = -1) ∧ (((mwidth p1.toNatClampNeg).toInt ≠ (mwidth p3.toNatClampNeg).toInt ∧ (u.1 0).toInt = -8) ∨ ((mwidth p1.toNatClampNeg).toInt = (mwidth p3.toNatClampNeg).toInt ∧ (((p2.toInt < 0 ∨ p4.toInt < 0 ∨ p5.toInt < 0 ∨ (mmany p1.toNatClampNeg).toInt < p2.toInt + p5.toInt ∨ (mmany p3.toNatClampNeg).toInt < p4.toInt + p5.toInt) ∧ (u.1 0).toInt = -7) ∨ (0 ≤ p2.toInt ∧ 0 ≤ p4.toInt ∧ 0 ≤ p5.toInt ∧ p2.toInt + p5.toInt ≤ (mmany p1.toNatClampNeg).toInt ∧ p4.toInt + p5.toInt ≤ (mmany p3.toNatClampNeg).toInt ∧ (u.1 0).toInt = 0))))))))) (fun u => [(h0, .inr (12, [.int mthrown, .ref a1, .ref a2, .ref a3, .ref a4, .int mtaped, .ref a6, .int msize, .int mat, .int mfrom, .int mtoken, .int mvalue, .int mfaultKind, .int mfaultPlace, .ref a14, .ref a15, .int mgoal, .int mgoalDays, .int mgoalHearer, .ref a19, .ref a20, .int mleastOrder, .int mwordsMany, .ref a23, .ref a24, .ref a25, .ref a26, .ref a27, .ref a28])), (a25, .inl (g.2 0, 4, .inl mmany)), (a26, .inl (g.2 0, 4, .inl mwidth)), (a27, .inl (g.2 3, 240, .inr (.inl (u.2.2 0)))), (a28, .inl (g.2 3, 60, .inr (.inl (u.2.2 1))))]) := by
  refine Ct.of (by decide) (Nat.le_of_ble_eq_true rfl) ?_
  intro p e s m below meth c A ls FX hP hD hS hl
  obtain ⟨FC, hr, hlk, hKn, hA, hnm, hZ⟩ := id FX
  have FC : CallFix p m c cX12_paste 7 s _ BIG RX12 := FC
  obtain ⟨hx, hb, hml, hown, hB⟩ := id FC
  have hl : lv_has ls 7 [(0, .ref h0), (1, .int p1), (2, .int p2), (3, .int p3), (4, .int p4), (5, .int p5)] := hl
  refine lv_iload_n hx hb dX12_paste_0 rfl (lv_at hl 1 rfl) ?_
  refine call_S (As := [.int p1]) (rest := []) (wr := [(h0, .inr (12, [.int mthrown, .ref a1, .ref a2, .ref a3, .ref a4, .int mtaped, .ref a6, .int msize, .int mat, .int mfrom, .int mtoken, .int mvalue, .int mfaultKind, .int mfaultPlace, .ref a14, .ref a15, .int mgoal, .int mgoalDays, .int mgoalHearer, .ref a19, .ref a20, .int mleastOrder, .int mwordsMany, .ref a23, .ref a24, .ref a25, .ref a26, .ref a27, .ref a28])), (a25, .inl (g.2 0, 4, .inl mmany)), (a26, .inl (g.2 0, 4, .inl mwidth)), (a27, .inl (g.2 3, 240, .inr (.inl mnumbers))), (a28, .inl (g.2 3, 60, .inr (.inl mmoving)))]) FC hKn hZ (k_X12_isSlot l g p1) m_yX12_isSlot b_933 hP hD hS hA [] [0, 1, 2, 3, 4] rfl (by decide) rfl (by decide) (by decide) rfl hl.1 rfl (Nat.le_of_ble_eq_true rfl) dX12_paste_1 ⟨(Nat.le_of_ble_eq_true rfl), (Nat.le_of_ble_eq_true rfl)⟩ ⟨(Nat.le_of_ble_eq_true rfl), (Nat.le_of_ble_eq_true rfl)⟩ (fun u1 H locs q2 hP hD hS => ?_)
  obtain ⟨q2_0, q2_1, q2_2⟩ := q2
  have hP : va_P g.1 vwCl [(h0, .inr (12, [.int mthrown, .ref a1, .ref a2, .ref a3, .ref a4, .int mtaped, .ref a6, .int msize, .int mat, .int mfrom, .int mtoken, .int mvalue, .int mfaultKind, .int mfaultPlace, .ref a14, .ref a15, .int mgoal, .int mgoalDays, .int mgoalHearer, .ref a19, .ref a20, .int mleastOrder, .int mwordsMany, .ref a23, .ref a24, .ref a25, .ref a26, .ref a27, .ref a28])), (a25, .inl (g.2 0, 4, .inl mmany)), (a26, .inl (g.2 0, 4, .inl mwidth)), (a27, .inl (g.2 3, 240, .inr (.inl mnumbers))), (a28, .inl (g.2 3, 60, .inr (.inl mmoving)))] H := hP
  have hD : va_D A [(h0, .inr (12, [.int mthrown, .ref a1, .ref a2, .ref a3, .ref a4, .int mtaped, .ref a6, .int msize, .int mat, .int mfrom, .int mtoken, .int mvalue, .int mfaultKind, .int mfaultPlace, .ref a14, .ref a15, .int mgoal, .int mgoalDays, .int mgoalHearer, .ref a19, .ref a20, .int mleastOrder, .int mwordsMany, .ref a23, .ref a24, .ref a25, .ref a26, .ref a27, .ref a28])), (a25, .inl (g.2 0, 4, .inl mmany)), (a26, .inl (g.2 0, 4, .inl mwidth)), (a27, .inl (g.2 3, 240, .inr (.inl mnumbers))), (a28, .inl (g.2 3, 60, .inr (.inl mmoving)))] := hD
  refine W.eq (g2 := F0 m 4 ls [.int (u1.1 0)]) rfl ?_
  rcases (show (u1.1 0).toInt = 0 ∨ (u1.1 0).toInt = 1 by omega) with c3 | c3
  · skip
    refine lv_if_eq (tgt := 14) hx hb dX12_paste_4 (by decide) (fun c4 => ?_) (fun c4 => ?_)
    · have c4 := k_eq (a := (u1.1 0).toInt) (b := 0) rfl (by decide) c4
      refine lv_bipush (v := -2) hx hb dX12_paste_14 (by decide) ?_
      have kcm2 : (-2 : Int32).toInt = -2 := by decide
      exact rt_i FX ((fun k => match k with | 0 => (-2 : Int32) | _ => 0), (fun _ => fun _ => 0), (fun k => match k with | 0 => mnumbers | 1 => mmoving | _ => fun _ => 0)) rfl (show (((p1.toInt < 0 ∨ 3 < p1.toInt) ∨ (p3.toInt < 0 ∨ 3 < p3.toInt)) ∧ ((-2 : Int32)).toInt = -2) ∨ ((0 ≤ p1.toInt ∧ p1.toInt ≤ 3) ∧ (0 ≤ p3.toInt ∧ p3.toInt ≤ 3) ∧ ((((mmany p1.toNatClampNeg).toInt = -1 ∨ (mmany p3.toNatClampNeg).toInt = -1) ∧ ((-2 : Int32)).toInt = -6) ∨ (¬ ((mmany p1.toNatClampNeg).toInt = -1) ∧ ¬ ((mmany p3.toNatClampNeg).toInt = -1) ∧ (((mwidth p1.toNatClampNeg).toInt ≠ (mwidth p3.toNatClampNeg).toInt ∧ ((-2 : Int32)).toInt = -8) ∨ ((mwidth p1.toNatClampNeg).toInt = (mwidth p3.toNatClampNeg).toInt ∧ (((p2.toInt < 0 ∨ p4.toInt < 0 ∨ p5.toInt < 0 ∨ (mmany p1.toNatClampNeg).toInt < p2.toInt + p5.toInt ∨ (mmany p3.toNatClampNeg).toInt < p4.toInt + p5.toInt) ∧ ((-2 : Int32)).toInt = -7) ∨ (0 ≤ p2.toInt ∧ 0 ≤ p4.toInt ∧ 0 ≤ p5.toInt ∧ p2.toInt + p5.toInt ≤ (mmany p1.toNatClampNeg).toInt ∧ p4.toInt + p5.toInt ≤ (mmany p3.toNatClampNeg).toInt ∧ ((-2 : Int32)).toInt = 0))))))) by omega) (hP.sub [0, 1, 2, 3, 4] rfl) (hD.sub [0, 1, 2, 3, 4] (by decide) rfl) hS (Nat.le_of_ble_eq_true rfl) (Nat.le_of_ble_eq_true rfl) dX12_paste_16
    · have c4 := k_ne (a := (u1.1 0).toInt) (b := 0) rfl (by decide) c4
      exfalso; omega
  · have c3_r := q2_2 c3
    refine lv_if_eq (tgt := 14) hx hb dX12_paste_4 (by decide) (fun c5 => ?_) (fun c5 => ?_)
    · have c5 := k_eq (a := (u1.1 0).toInt) (b := 0) rfl (by decide) c5
      exfalso; omega
    · have c5 := k_ne (a := (u1.1 0).toInt) (b := 0) rfl (by decide) c5
      refine lv_iload_n hx hb dX12_paste_7 rfl (lv_at hl 3 rfl) ?_
      refine call_S (As := [.int p3]) (rest := []) (wr := [(h0, .inr (12, [.int mthrown, .ref a1, .ref a2, .ref a3, .ref a4, .int mtaped, .ref a6, .int msize, .int mat, .int mfrom, .int mtoken, .int mvalue, .int mfaultKind, .int mfaultPlace, .ref a14, .ref a15, .int mgoal, .int mgoalDays, .int mgoalHearer, .ref a19, .ref a20, .int mleastOrder, .int mwordsMany, .ref a23, .ref a24, .ref a25, .ref a26, .ref a27, .ref a28])), (a25, .inl (g.2 0, 4, .inl mmany)), (a26, .inl (g.2 0, 4, .inl mwidth)), (a27, .inl (g.2 3, 240, .inr (.inl mnumbers))), (a28, .inl (g.2 3, 60, .inr (.inl mmoving)))]) FC hKn hZ (k_X12_isSlot l g p3) m_yX12_isSlot b_933 hP hD hS hA [] [0, 1, 2, 3, 4] rfl (by decide) rfl (by decide) (by decide) rfl hl.1 rfl (Nat.le_of_ble_eq_true rfl) dX12_paste_8 ⟨(Nat.le_of_ble_eq_true rfl), (Nat.le_of_ble_eq_true rfl)⟩ ⟨(Nat.le_of_ble_eq_true rfl), (Nat.le_of_ble_eq_true rfl)⟩ (fun u6 H locs q7 hP hD hS => ?_)
      obtain ⟨q7_0, q7_1, q7_2⟩ := q7
      have hP : va_P g.1 vwCl [(h0, .inr (12, [.int mthrown, .ref a1, .ref a2, .ref a3, .ref a4, .int mtaped, .ref a6, .int msize, .int mat, .int mfrom, .int mtoken, .int mvalue, .int mfaultKind, .int mfaultPlace, .ref a14, .ref a15, .int mgoal, .int mgoalDays, .int mgoalHearer, .ref a19, .ref a20, .int mleastOrder, .int mwordsMany, .ref a23, .ref a24, .ref a25, .ref a26, .ref a27, .ref a28])), (a25, .inl (g.2 0, 4, .inl mmany)), (a26, .inl (g.2 0, 4, .inl mwidth)), (a27, .inl (g.2 3, 240, .inr (.inl mnumbers))), (a28, .inl (g.2 3, 60, .inr (.inl mmoving)))] H := hP
      have hD : va_D A [(h0, .inr (12, [.int mthrown, .ref a1, .ref a2, .ref a3, .ref a4, .int mtaped, .ref a6, .int msize, .int mat, .int mfrom, .int mtoken, .int mvalue, .int mfaultKind, .int mfaultPlace, .ref a14, .ref a15, .int mgoal, .int mgoalDays, .int mgoalHearer, .ref a19, .ref a20, .int mleastOrder, .int mwordsMany, .ref a23, .ref a24, .ref a25, .ref a26, .ref a27, .ref a28])), (a25, .inl (g.2 0, 4, .inl mmany)), (a26, .inl (g.2 0, 4, .inl mwidth)), (a27, .inl (g.2 3, 240, .inr (.inl mnumbers))), (a28, .inl (g.2 3, 60, .inr (.inl mmoving)))] := hD
      refine W.eq (g2 := F0 m 11 ls [.int (u6.1 0)]) rfl ?_
      rcases (show (u6.1 0).toInt = 0 ∨ (u6.1 0).toInt = 1 by omega) with c8 | c8
      · skip
        refine lv_if_ne (tgt := 17) hx hb dX12_paste_11 (by decide) (fun c9 => ?_) (fun c9 => ?_)
        · have c9 := k_ne (a := (u6.1 0).toInt) (b := 0) rfl (by decide) c9
          exfalso; omega
        · have c9 := k_eq (a := (u6.1 0).toInt) (b := 0) rfl (by decide) c9
          refine lv_bipush (v := -2) hx hb dX12_paste_14 (by decide) ?_
          have kcm2 : (-2 : Int32).toInt = -2 := by decide
          exact rt_i FX ((fun k => match k with | 0 => (-2 : Int32) | _ => 0), (fun _ => fun _ => 0), (fun k => match k with | 0 => mnumbers | 1 => mmoving | _ => fun _ => 0)) rfl (show (((p1.toInt < 0 ∨ 3 < p1.toInt) ∨ (p3.toInt < 0 ∨ 3 < p3.toInt)) ∧ ((-2 : Int32)).toInt = -2) ∨ ((0 ≤ p1.toInt ∧ p1.toInt ≤ 3) ∧ (0 ≤ p3.toInt ∧ p3.toInt ≤ 3) ∧ ((((mmany p1.toNatClampNeg).toInt = -1 ∨ (mmany p3.toNatClampNeg).toInt = -1) ∧ ((-2 : Int32)).toInt = -6) ∨ (¬ ((mmany p1.toNatClampNeg).toInt = -1) ∧ ¬ ((mmany p3.toNatClampNeg).toInt = -1) ∧ (((mwidth p1.toNatClampNeg).toInt ≠ (mwidth p3.toNatClampNeg).toInt ∧ ((-2 : Int32)).toInt = -8) ∨ ((mwidth p1.toNatClampNeg).toInt = (mwidth p3.toNatClampNeg).toInt ∧ (((p2.toInt < 0 ∨ p4.toInt < 0 ∨ p5.toInt < 0 ∨ (mmany p1.toNatClampNeg).toInt < p2.toInt + p5.toInt ∨ (mmany p3.toNatClampNeg).toInt < p4.toInt + p5.toInt) ∧ ((-2 : Int32)).toInt = -7) ∨ (0 ≤ p2.toInt ∧ 0 ≤ p4.toInt ∧ 0 ≤ p5.toInt ∧ p2.toInt + p5.toInt ≤ (mmany p1.toNatClampNeg).toInt ∧ p4.toInt + p5.toInt ≤ (mmany p3.toNatClampNeg).toInt ∧ ((-2 : Int32)).toInt = 0))))))) by omega) (hP.sub [0, 1, 2, 3, 4] rfl) (hD.sub [0, 1, 2, 3, 4] (by decide) rfl) hS (Nat.le_of_ble_eq_true rfl) (Nat.le_of_ble_eq_true rfl) dX12_paste_16
      · have c8_r := q7_2 c8
        refine lv_if_ne (tgt := 17) hx hb dX12_paste_11 (by decide) (fun c10 => ?_) (fun c10 => ?_)
        · have c10 := k_ne (a := (u6.1 0).toInt) (b := 0) rfl (by decide) c10
          refine lv_aload_n hx hb dX12_paste_17 rfl (lv_at hl 0 rfl) ?_
          refine g_get (C := RX12) (T := TX12) (N := 29) (ci := 12) (v := .ref a25) FC hKn hP i_X12 0 rfl rfl 25 (by decide) b_934 rfl dX12_paste_18 ?_
          refine lv_iload_n hx hb dX12_paste_21 rfl (lv_at hl 1 rfl) ?_
          refine va_iald hx hb hKn.1 hP 1 0 rfl rfl (vp_in_iff.mpr ⟨by omega, by omega⟩) dX12_paste_22 ?_
          refine lv_topi (fun z11 e_z11 => ?_)
          have t_z11 : -1 ≤ z11.toInt ∧ z11.toInt ≤ 60 := by rw [e_z11]; exact i_mmany _ (clt (by omega) (by omega))
          have q_z11 : z11.toInt = (mmany p1.toNatClampNeg).toInt := by rw [e_z11]
          refine lv_iconst (v := -1) hx hb dX12_paste_23 (by decide) ?_
          refine lv_icmp_eq (tgt := 37) hx hb dX12_paste_24 (by decide) (fun c12 => ?_) (fun c12 => ?_)
          · have c12 := k_eq (a := z11.toInt) (b := -1) rfl (by decide) c12
            refine lv_bipush (v := -6) hx hb dX12_paste_37 (by decide) ?_
            have kcm6 : (-6 : Int32).toInt = -6 := by decide
            exact rt_i FX ((fun k => match k with | 0 => (-6 : Int32) | _ => 0), (fun _ => fun _ => 0), (fun k => match k with | 0 => mnumbers | 1 => mmoving | _ => fun _ => 0)) rfl (show (((p1.toInt < 0 ∨ 3 < p1.toInt) ∨ (p3.toInt < 0 ∨ 3 < p3.toInt)) ∧ ((-6 : Int32)).toInt = -2) ∨ ((0 ≤ p1.toInt ∧ p1.toInt ≤ 3) ∧ (0 ≤ p3.toInt ∧ p3.toInt ≤ 3) ∧ ((((mmany p1.toNatClampNeg).toInt = -1 ∨ (mmany p3.toNatClampNeg).toInt = -1) ∧ ((-6 : Int32)).toInt = -6) ∨ (¬ ((mmany p1.toNatClampNeg).toInt = -1) ∧ ¬ ((mmany p3.toNatClampNeg).toInt = -1) ∧ (((mwidth p1.toNatClampNeg).toInt ≠ (mwidth p3.toNatClampNeg).toInt ∧ ((-6 : Int32)).toInt = -8) ∨ ((mwidth p1.toNatClampNeg).toInt = (mwidth p3.toNatClampNeg).toInt ∧ (((p2.toInt < 0 ∨ p4.toInt < 0 ∨ p5.toInt < 0 ∨ (mmany p1.toNatClampNeg).toInt < p2.toInt + p5.toInt ∨ (mmany p3.toNatClampNeg).toInt < p4.toInt + p5.toInt) ∧ ((-6 : Int32)).toInt = -7) ∨ (0 ≤ p2.toInt ∧ 0 ≤ p4.toInt ∧ 0 ≤ p5.toInt ∧ p2.toInt + p5.toInt ≤ (mmany p1.toNatClampNeg).toInt ∧ p4.toInt + p5.toInt ≤ (mmany p3.toNatClampNeg).toInt ∧ ((-6 : Int32)).toInt = 0))))))) by omega) (hP.sub [0, 1, 2, 3, 4] rfl) (hD.sub [0, 1, 2, 3, 4] (by decide) rfl) hS (Nat.le_of_ble_eq_true rfl) (Nat.le_of_ble_eq_true rfl) dX12_paste_39
          · have c12 := k_ne (a := z11.toInt) (b := -1) rfl (by decide) c12
            refine lv_aload_n hx hb dX12_paste_27 rfl (lv_at hl 0 rfl) ?_
            refine g_get (C := RX12) (T := TX12) (N := 29) (ci := 12) (v := .ref a25) FC hKn hP i_X12 0 rfl rfl 25 (by decide) b_934 rfl dX12_paste_28 ?_
            refine lv_iload_n hx hb dX12_paste_31 rfl (lv_at hl 3 rfl) ?_
            refine va_iald hx hb hKn.1 hP 1 0 rfl rfl (vp_in_iff.mpr ⟨by omega, by omega⟩) dX12_paste_32 ?_
            refine lv_topi (fun z13 e_z13 => ?_)
            have t_z13 : -1 ≤ z13.toInt ∧ z13.toInt ≤ 60 := by rw [e_z13]; exact i_mmany _ (clt (by omega) (by omega))
            have q_z13 : z13.toInt = (mmany p3.toNatClampNeg).toInt := by rw [e_z13]
            refine lv_iconst (v := -1) hx hb dX12_paste_33 (by decide) ?_
            refine lv_icmp_ne (tgt := 40) hx hb dX12_paste_34 (by decide) (fun c14 => ?_) (fun c14 => ?_)
            · have c14 := k_ne (a := z13.toInt) (b := -1) rfl (by decide) c14
              refine lv_aload_n hx hb dX12_paste_40 rfl (lv_at hl 0 rfl) ?_
              refine g_get (C := RX12) (T := TX12) (N := 29) (ci := 12) (v := .ref a26) FC hKn hP i_X12 0 rfl rfl 26 (by decide) b_1092 rfl dX12_paste_41 ?_
              refine lv_iload_n hx hb dX12_paste_44 rfl (lv_at hl 1 rfl) ?_
              refine va_iald hx hb hKn.1 hP 2 0 rfl rfl (vp_in_iff.mpr ⟨by omega, by omega⟩) dX12_paste_45 ?_
              refine lv_topi (fun z15 e_z15 => ?_)
              have t_z15 : 0 ≤ z15.toInt ∧ z15.toInt ≤ 3 := by rw [e_z15]; exact i_mwidth _ (clt (by omega) (by omega))
              have q_z15 : z15.toInt = (mwidth p1.toNatClampNeg).toInt := by rw [e_z15]
              refine lv_aload_n hx hb dX12_paste_46 rfl (lv_at hl 0 rfl) ?_
              refine g_get (C := RX12) (T := TX12) (N := 29) (ci := 12) (v := .ref a26) FC hKn hP i_X12 0 rfl rfl 26 (by decide) b_1092 rfl dX12_paste_47 ?_
              refine lv_iload_n hx hb dX12_paste_50 rfl (lv_at hl 3 rfl) ?_
              refine va_iald hx hb hKn.1 hP 2 0 rfl rfl (vp_in_iff.mpr ⟨by omega, by omega⟩) dX12_paste_51 ?_
              refine lv_topi (fun z16 e_z16 => ?_)
              have t_z16 : 0 ≤ z16.toInt ∧ z16.toInt ≤ 3 := by rw [e_z16]; exact i_mwidth _ (clt (by omega) (by omega))
              have q_z16 : z16.toInt = (mwidth p3.toNatClampNeg).toInt := by rw [e_z16]
              refine lv_icmp_eq (tgt := 58) hx hb dX12_paste_52 (by decide) (fun c17 => ?_) (fun c17 => ?_)
              · have c17 := k_eq (a := z15.toInt) (b := z16.toInt) rfl rfl c17
                refine lv_iload_n hx hb dX12_paste_58 rfl (lv_at hl 2 rfl) ?_
                refine lv_if_lt (tgt := 107) hx hb dX12_paste_59 (by decide) (fun c18 => ?_) (fun c18 => ?_)
                · have c18 := k_lt (a := p2.toInt) (b := 0) rfl (by decide) c18
                  refine lv_bipush (v := -7) hx hb dX12_paste_107 (by decide) ?_
                  have kcm7 : (-7 : Int32).toInt = -7 := by decide
                  exact rt_i FX ((fun k => match k with | 0 => (-7 : Int32) | _ => 0), (fun _ => fun _ => 0), (fun k => match k with | 0 => mnumbers | 1 => mmoving | _ => fun _ => 0)) rfl (show (((p1.toInt < 0 ∨ 3 < p1.toInt) ∨ (p3.toInt < 0 ∨ 3 < p3.toInt)) ∧ ((-7 : Int32)).toInt = -2) ∨ ((0 ≤ p1.toInt ∧ p1.toInt ≤ 3) ∧ (0 ≤ p3.toInt ∧ p3.toInt ≤ 3) ∧ ((((mmany p1.toNatClampNeg).toInt = -1 ∨ (mmany p3.toNatClampNeg).toInt = -1) ∧ ((-7 : Int32)).toInt = -6) ∨ (¬ ((mmany p1.toNatClampNeg).toInt = -1) ∧ ¬ ((mmany p3.toNatClampNeg).toInt = -1) ∧ (((mwidth p1.toNatClampNeg).toInt ≠ (mwidth p3.toNatClampNeg).toInt ∧ ((-7 : Int32)).toInt = -8) ∨ ((mwidth p1.toNatClampNeg).toInt = (mwidth p3.toNatClampNeg).toInt ∧ (((p2.toInt < 0 ∨ p4.toInt < 0 ∨ p5.toInt < 0 ∨ (mmany p1.toNatClampNeg).toInt < p2.toInt + p5.toInt ∨ (mmany p3.toNatClampNeg).toInt < p4.toInt + p5.toInt) ∧ ((-7 : Int32)).toInt = -7) ∨ (0 ≤ p2.toInt ∧ 0 ≤ p4.toInt ∧ 0 ≤ p5.toInt ∧ p2.toInt + p5.toInt ≤ (mmany p1.toNatClampNeg).toInt ∧ p4.toInt + p5.toInt ≤ (mmany p3.toNatClampNeg).toInt ∧ ((-7 : Int32)).toInt = 0))))))) by omega) (hP.sub [0, 1, 2, 3, 4] rfl) (hD.sub [0, 1, 2, 3, 4] (by decide) rfl) hS (Nat.le_of_ble_eq_true rfl) (Nat.le_of_ble_eq_true rfl) dX12_paste_109
                · have c18 := k_nlt (a := p2.toInt) (b := 0) rfl (by decide) c18
                  refine lv_iload hx hb dX12_paste_62 (lv_at hl 4 rfl) ?_
                  refine lv_if_lt (tgt := 107) hx hb dX12_paste_64 (by decide) (fun c19 => ?_) (fun c19 => ?_)
                  · have c19 := k_lt (a := p4.toInt) (b := 0) rfl (by decide) c19
                    refine lv_bipush (v := -7) hx hb dX12_paste_107 (by decide) ?_
                    have kcm7 : (-7 : Int32).toInt = -7 := by decide
                    exact rt_i FX ((fun k => match k with | 0 => (-7 : Int32) | _ => 0), (fun _ => fun _ => 0), (fun k => match k with | 0 => mnumbers | 1 => mmoving | _ => fun _ => 0)) rfl (show (((p1.toInt < 0 ∨ 3 < p1.toInt) ∨ (p3.toInt < 0 ∨ 3 < p3.toInt)) ∧ ((-7 : Int32)).toInt = -2) ∨ ((0 ≤ p1.toInt ∧ p1.toInt ≤ 3) ∧ (0 ≤ p3.toInt ∧ p3.toInt ≤ 3) ∧ ((((mmany p1.toNatClampNeg).toInt = -1 ∨ (mmany p3.toNatClampNeg).toInt = -1) ∧ ((-7 : Int32)).toInt = -6) ∨ (¬ ((mmany p1.toNatClampNeg).toInt = -1) ∧ ¬ ((mmany p3.toNatClampNeg).toInt = -1) ∧ (((mwidth p1.toNatClampNeg).toInt ≠ (mwidth p3.toNatClampNeg).toInt ∧ ((-7 : Int32)).toInt = -8) ∨ ((mwidth p1.toNatClampNeg).toInt = (mwidth p3.toNatClampNeg).toInt ∧ (((p2.toInt < 0 ∨ p4.toInt < 0 ∨ p5.toInt < 0 ∨ (mmany p1.toNatClampNeg).toInt < p2.toInt + p5.toInt ∨ (mmany p3.toNatClampNeg).toInt < p4.toInt + p5.toInt) ∧ ((-7 : Int32)).toInt = -7) ∨ (0 ≤ p2.toInt ∧ 0 ≤ p4.toInt ∧ 0 ≤ p5.toInt ∧ p2.toInt + p5.toInt ≤ (mmany p1.toNatClampNeg).toInt ∧ p4.toInt + p5.toInt ≤ (mmany p3.toNatClampNeg).toInt ∧ ((-7 : Int32)).toInt = 0))))))) by omega) (hP.sub [0, 1, 2, 3, 4] rfl) (hD.sub [0, 1, 2, 3, 4] (by decide) rfl) hS (Nat.le_of_ble_eq_true rfl) (Nat.le_of_ble_eq_true rfl) dX12_paste_109
                  · have c19 := k_nlt (a := p4.toInt) (b := 0) rfl (by decide) c19
                    refine lv_iload hx hb dX12_paste_67 (lv_at hl 5 rfl) ?_
                    refine lv_if_lt (tgt := 107) hx hb dX12_paste_69 (by decide) (fun c20 => ?_) (fun c20 => ?_)
                    · have c20 := k_lt (a := p5.toInt) (b := 0) rfl (by decide) c20
                      refine lv_bipush (v := -7) hx hb dX12_paste_107 (by decide) ?_
                      have kcm7 : (-7 : Int32).toInt = -7 := by decide
                      exact rt_i FX ((fun k => match k with | 0 => (-7 : Int32) | _ => 0), (fun _ => fun _ => 0), (fun k => match k with | 0 => mnumbers | 1 => mmoving | _ => fun _ => 0)) rfl (show (((p1.toInt < 0 ∨ 3 < p1.toInt) ∨ (p3.toInt < 0 ∨ 3 < p3.toInt)) ∧ ((-7 : Int32)).toInt = -2) ∨ ((0 ≤ p1.toInt ∧ p1.toInt ≤ 3) ∧ (0 ≤ p3.toInt ∧ p3.toInt ≤ 3) ∧ ((((mmany p1.toNatClampNeg).toInt = -1 ∨ (mmany p3.toNatClampNeg).toInt = -1) ∧ ((-7 : Int32)).toInt = -6) ∨ (¬ ((mmany p1.toNatClampNeg).toInt = -1) ∧ ¬ ((mmany p3.toNatClampNeg).toInt = -1) ∧ (((mwidth p1.toNatClampNeg).toInt ≠ (mwidth p3.toNatClampNeg).toInt ∧ ((-7 : Int32)).toInt = -8) ∨ ((mwidth p1.toNatClampNeg).toInt = (mwidth p3.toNatClampNeg).toInt ∧ (((p2.toInt < 0 ∨ p4.toInt < 0 ∨ p5.toInt < 0 ∨ (mmany p1.toNatClampNeg).toInt < p2.toInt + p5.toInt ∨ (mmany p3.toNatClampNeg).toInt < p4.toInt + p5.toInt) ∧ ((-7 : Int32)).toInt = -7) ∨ (0 ≤ p2.toInt ∧ 0 ≤ p4.toInt ∧ 0 ≤ p5.toInt ∧ p2.toInt + p5.toInt ≤ (mmany p1.toNatClampNeg).toInt ∧ p4.toInt + p5.toInt ≤ (mmany p3.toNatClampNeg).toInt ∧ ((-7 : Int32)).toInt = 0))))))) by omega) (hP.sub [0, 1, 2, 3, 4] rfl) (hD.sub [0, 1, 2, 3, 4] (by decide) rfl) hS (Nat.le_of_ble_eq_true rfl) (Nat.le_of_ble_eq_true rfl) dX12_paste_109
                    · have c20 := k_nlt (a := p5.toInt) (b := 0) rfl (by decide) c20
                      refine lv_iload_n hx hb dX12_paste_72 rfl (lv_at hl 2 rfl) ?_
                      refine lv_i2l (v := p2.toInt64) hx hb dX12_paste_73 rfl ?_
                      refine lv_topl (fun z21 e_z21 => ?_)
                      have t_z21 : z21.toInt = p2.toInt := by rw [e_z21]; exact Int32.toInt_toInt64 _
                      refine lv_iload hx hb dX12_paste_74 (lv_at hl 5 rfl) ?_
                      refine lv_i2l (v := p5.toInt64) hx hb dX12_paste_76 rfl ?_
                      refine lv_topl (fun z22 e_z22 => ?_)
                      have t_z22 : z22.toInt = p5.toInt := by rw [e_z22]; exact Int32.toInt_toInt64 _
                      refine lv_ladd hx hb dX12_paste_77 ?_
                      refine lv_topl (fun z23 e_z23 => ?_)
                      have rg24 := fb_rng p2
                      have rg25 := fb_rng p5
                      have t_z23 : z23.toInt = z21.toInt + z22.toInt := by rw [e_z23]; exact fb_addL (by omega) (by omega)
                      refine lv_aload_n hx hb dX12_paste_78 rfl (lv_at hl 0 rfl) ?_
                      refine g_get (C := RX12) (T := TX12) (N := 29) (ci := 12) (v := .ref a25) FC hKn hP i_X12 0 rfl rfl 25 (by decide) b_934 rfl dX12_paste_79 ?_
                      refine lv_iload_n hx hb dX12_paste_82 rfl (lv_at hl 1 rfl) ?_
                      refine va_iald hx hb hKn.1 hP 1 0 rfl rfl (vp_in_iff.mpr ⟨by omega, by omega⟩) dX12_paste_83 ?_
                      refine tp_i (v := z11) e_z11.symm ?_
                      refine lv_i2l (v := z11.toInt64) hx hb dX12_paste_84 rfl ?_
                      refine lv_topl (fun z26 e_z26 => ?_)
                      have t_z26 : z26.toInt = z11.toInt := by rw [e_z26]; exact Int32.toInt_toInt64 _
                      refine W.lcmp hx hb dX12_paste_85 ?_
                      refine lv_if_gt (tgt := 107) hx hb dX12_paste_86 (by decide) (fun c27 => ?_) (fun c27 => ?_)
                      · have c27 := k_lt (a := 0) (b := (lg_cmp z23 z26).toInt) (by decide) rfl c27
                        have c27 := kc_gtT c27
                        refine lv_bipush (v := -7) hx hb dX12_paste_107 (by decide) ?_
                        have kcm7 : (-7 : Int32).toInt = -7 := by decide
                        exact rt_i FX ((fun k => match k with | 0 => (-7 : Int32) | _ => 0), (fun _ => fun _ => 0), (fun k => match k with | 0 => mnumbers | 1 => mmoving | _ => fun _ => 0)) rfl (show (((p1.toInt < 0 ∨ 3 < p1.toInt) ∨ (p3.toInt < 0 ∨ 3 < p3.toInt)) ∧ ((-7 : Int32)).toInt = -2) ∨ ((0 ≤ p1.toInt ∧ p1.toInt ≤ 3) ∧ (0 ≤ p3.toInt ∧ p3.toInt ≤ 3) ∧ ((((mmany p1.toNatClampNeg).toInt = -1 ∨ (mmany p3.toNatClampNeg).toInt = -1) ∧ ((-7 : Int32)).toInt = -6) ∨ (¬ ((mmany p1.toNatClampNeg).toInt = -1) ∧ ¬ ((mmany p3.toNatClampNeg).toInt = -1) ∧ (((mwidth p1.toNatClampNeg).toInt ≠ (mwidth p3.toNatClampNeg).toInt ∧ ((-7 : Int32)).toInt = -8) ∨ ((mwidth p1.toNatClampNeg).toInt = (mwidth p3.toNatClampNeg).toInt ∧ (((p2.toInt < 0 ∨ p4.toInt < 0 ∨ p5.toInt < 0 ∨ (mmany p1.toNatClampNeg).toInt < p2.toInt + p5.toInt ∨ (mmany p3.toNatClampNeg).toInt < p4.toInt + p5.toInt) ∧ ((-7 : Int32)).toInt = -7) ∨ (0 ≤ p2.toInt ∧ 0 ≤ p4.toInt ∧ 0 ≤ p5.toInt ∧ p2.toInt + p5.toInt ≤ (mmany p1.toNatClampNeg).toInt ∧ p4.toInt + p5.toInt ≤ (mmany p3.toNatClampNeg).toInt ∧ ((-7 : Int32)).toInt = 0))))))) by omega) (hP.sub [0, 1, 2, 3, 4] rfl) (hD.sub [0, 1, 2, 3, 4] (by decide) rfl) hS (Nat.le_of_ble_eq_true rfl) (Nat.le_of_ble_eq_true rfl) dX12_paste_109
                      · have c27 := k_nlt (a := 0) (b := (lg_cmp z23 z26).toInt) (by decide) rfl c27
                        have c27 := kc_gtF c27
                        refine lv_iload hx hb dX12_paste_89 (lv_at hl 4 rfl) ?_
                        refine lv_i2l (v := p4.toInt64) hx hb dX12_paste_91 rfl ?_
                        refine lv_topl (fun z28 e_z28 => ?_)
                        have t_z28 : z28.toInt = p4.toInt := by rw [e_z28]; exact Int32.toInt_toInt64 _
                        refine lv_iload hx hb dX12_paste_92 (lv_at hl 5 rfl) ?_
                        refine lv_i2l (v := p5.toInt64) hx hb dX12_paste_94 rfl ?_
                        refine lv_topl (fun z29 e_z29 => ?_)
                        have t_z29 : z29.toInt = p5.toInt := by rw [e_z29]; exact Int32.toInt_toInt64 _
                        refine lv_ladd hx hb dX12_paste_95 ?_
                        refine lv_topl (fun z30 e_z30 => ?_)
                        have rg31 := fb_rng p4
                        have rg32 := fb_rng p5
                        have t_z30 : z30.toInt = z28.toInt + z29.toInt := by rw [e_z30]; exact fb_addL (by omega) (by omega)
                        refine lv_aload_n hx hb dX12_paste_96 rfl (lv_at hl 0 rfl) ?_
                        refine g_get (C := RX12) (T := TX12) (N := 29) (ci := 12) (v := .ref a25) FC hKn hP i_X12 0 rfl rfl 25 (by decide) b_934 rfl dX12_paste_97 ?_
                        refine lv_iload_n hx hb dX12_paste_100 rfl (lv_at hl 3 rfl) ?_
                        refine va_iald hx hb hKn.1 hP 1 0 rfl rfl (vp_in_iff.mpr ⟨by omega, by omega⟩) dX12_paste_101 ?_
                        refine tp_i (v := z13) e_z13.symm ?_
                        refine lv_i2l (v := z13.toInt64) hx hb dX12_paste_102 rfl ?_
                        refine lv_topl (fun z33 e_z33 => ?_)
                        have t_z33 : z33.toInt = z13.toInt := by rw [e_z33]; exact Int32.toInt_toInt64 _
                        refine W.lcmp hx hb dX12_paste_103 ?_
                        refine lv_if_le (tgt := 110) hx hb dX12_paste_104 (by decide) (fun c34 => ?_) (fun c34 => ?_)
                        · have c34 := k_le (a := (lg_cmp z30 z33).toInt) (b := 0) rfl (by decide) c34
                          have c34 := kc_leT c34
                          refine lv_iconst (v := 0) hx hb dX12_paste_110 (by decide) ?_
                          refine lv_istore (lv' := [(6, .int 0), (0, .ref h0), (1, .int p1), (2, .int p2), (3, .int p3), (4, .int p4), (5, .int p5)]) hx hb dX12_paste_111 hl (by decide) rfl (fun ls hl => ?_)
                          have lp506 : ∀ (n508 : Nat) (x504 : Int32) (x505 : Nat → Int64) (H : Heap) (locs : List Loc) (ls : Array Slot), 0 ≤ x504.toInt ∧ x504.toInt ≤ 60 → (60 - x504.toInt).toNat < n508 → va_P g.1 vwCl [(h0, .inr (12, [.int mthrown, .ref a1, .ref a2, .ref a3, .ref a4, .int mtaped, .ref a6, .int msize, .int mat, .int mfrom, .int mtoken, .int mvalue, .int mfaultKind, .int mfaultPlace, .ref a14, .ref a15, .int mgoal, .int mgoalDays, .int mgoalHearer, .ref a19, .ref a20, .int mleastOrder, .int mwordsMany, .ref a23, .ref a24, .ref a25, .ref a26, .ref a27, .ref a28])), (a25, .inl (g.2 0, 4, .inl mmany)), (a26, .inl (g.2 0, 4, .inl mwidth)), (a27, .inl (g.2 3, 240, .inr (.inl mnumbers))), (a28, .inl (g.2 3, 60, .inr (.inl x505)))] H → va_D A [(h0, .inr (12, [.int mthrown, .ref a1, .ref a2, .ref a3, .ref a4, .int mtaped, .ref a6, .int msize, .int mat, .int mfrom, .int mtoken, .int mvalue, .int mfaultKind, .int mfaultPlace, .ref a14, .ref a15, .int mgoal, .int mgoalDays, .int mgoalHearer, .ref a19, .ref a20, .int mleastOrder, .int mwordsMany, .ref a23, .ref a24, .ref a25, .ref a26, .ref a27, .ref a28])), (a25, .inl (g.2 0, 4, .inl mmany)), (a26, .inl (g.2 0, 4, .inl mwidth)), (a27, .inl (g.2 3, 240, .inr (.inl mnumbers))), (a28, .inl (g.2 3, 60, .inr (.inl x505)))] → va_S A s.heap H locs → lv_has ls 7 [(6, .int x504), (0, .ref h0), (1, .int p1), (2, .int p2), (3, .int p3), (4, .int p4), (5, .int p5)] → W p l e { frames := 2, cells := 0, slots := 0, locals := 45 } s m ([.ref h0, .int p1, .int p2, .int p3, .int p4, .int p5].toArray) below meth c H locs 0 0 (MQ below (QX (S := (Nat → Int32) × (Nat → Nat → Int32) × (Nat → Nat → Int64)) (fun u => some (.int (u.1 0))) (fun u => ((((p1.toInt < 0 ∨ 3 < p1.toInt) ∨ (p3.toInt < 0 ∨ 3 < p3.toInt)) ∧ (u.1 0).toInt = -2) ∨ ((0 ≤ p1.toInt ∧ p1.toInt ≤ 3) ∧ (0 ≤ p3.toInt ∧ p3.toInt ≤ 3) ∧ ((((mmany p1.toNatClampNeg).toInt = -1 ∨ (mmany p3.toNatClampNeg).toInt = -1) ∧ (u.1 0).toInt = -6) ∨ (¬ ((mmany p1.toNatClampNeg).toInt = -1) ∧ ¬ ((mmany p3.toNatClampNeg).toInt = -1) ∧ (((mwidth p1.toNatClampNeg).toInt ≠ (mwidth p3.toNatClampNeg).toInt ∧ (u.1 0).toInt = -8) ∨ ((mwidth p1.toNatClampNeg).toInt = (mwidth p3.toNatClampNeg).toInt ∧ (((p2.toInt < 0 ∨ p4.toInt < 0 ∨ p5.toInt < 0 ∨ (mmany p1.toNatClampNeg).toInt < p2.toInt + p5.toInt ∨ (mmany p3.toNatClampNeg).toInt < p4.toInt + p5.toInt) ∧ (u.1 0).toInt = -7) ∨ (0 ≤ p2.toInt ∧ 0 ≤ p4.toInt ∧ 0 ≤ p5.toInt ∧ p2.toInt + p5.toInt ≤ (mmany p1.toNatClampNeg).toInt ∧ p4.toInt + p5.toInt ≤ (mmany p3.toNatClampNeg).toInt ∧ (u.1 0).toInt = 0))))))))) g (fun u => [(h0, .inr (12, [.int mthrown, .ref a1, .ref a2, .ref a3, .ref a4, .int mtaped, .ref a6, .int msize, .int mat, .int mfrom, .int mtoken, .int mvalue, .int mfaultKind, .int mfaultPlace, .ref a14, .ref a15, .int mgoal, .int mgoalDays, .int mgoalHearer, .ref a19, .ref a20, .int mleastOrder, .int mwordsMany, .ref a23, .ref a24, .ref a25, .ref a26, .ref a27, .ref a28])), (a25, .inl (g.2 0, 4, .inl mmany)), (a26, .inl (g.2 0, 4, .inl mwidth)), (a27, .inl (g.2 3, 240, .inr (.inl (u.2.2 0)))), (a28, .inl (g.2 3, 60, .inr (.inl (u.2.2 1))))]) A) ([.ref h0, .int p1, .int p2, .int p3, .int p4, .int p5].toArray) s 0 0 A) (F0 m 113 ls []) := by
                            intro n508
                            induction n508 with
                            | zero =>
                              intro x504 x505 H locs ls h_x504 hn509
                              exact absurd hn509 (Nat.not_lt_zero _)
                            | succ n508 ih507 =>
                              intro x504 x505 H locs ls h_x504 hn509 hP hD hS hl
                              refine lv_iload hx hb dX12_paste_113 (lv_at hl 0 rfl) ?_
                              refine lv_iload hx hb dX12_paste_115 (lv_at hl 6 rfl) ?_
                              refine lv_icmp_ge (tgt := 147) hx hb dX12_paste_117 (by decide) (fun c510 => ?_) (fun c510 => ?_)
                              · have c510 := k_le (a := p5.toInt) (b := x504.toInt) rfl rfl c510
                                refine lv_iconst (v := 0) hx hb dX12_paste_147 (by decide) ?_
                                refine lv_istore (lv' := [(6, .int 0), (0, .ref h0), (1, .int p1), (2, .int p2), (3, .int p3), (4, .int p4), (5, .int p5)]) hx hb dX12_paste_148 hl (by decide) rfl (fun ls hl => ?_)
                                have lp582 : ∀ (n584 : Nat) (x580 : Int32) (x581 : Nat → Int64) (H : Heap) (locs : List Loc) (ls : Array Slot), 0 ≤ x580.toInt ∧ x580.toInt ≤ 60 → (60 - x580.toInt).toNat < n584 → va_P g.1 vwCl [(h0, .inr (12, [.int mthrown, .ref a1, .ref a2, .ref a3, .ref a4, .int mtaped, .ref a6, .int msize, .int mat, .int mfrom, .int mtoken, .int mvalue, .int mfaultKind, .int mfaultPlace, .ref a14, .ref a15, .int mgoal, .int mgoalDays, .int mgoalHearer, .ref a19, .ref a20, .int mleastOrder, .int mwordsMany, .ref a23, .ref a24, .ref a25, .ref a26, .ref a27, .ref a28])), (a25, .inl (g.2 0, 4, .inl mmany)), (a26, .inl (g.2 0, 4, .inl mwidth)), (a27, .inl (g.2 3, 240, .inr (.inl x581))), (a28, .inl (g.2 3, 60, .inr (.inl x505)))] H → va_D A [(h0, .inr (12, [.int mthrown, .ref a1, .ref a2, .ref a3, .ref a4, .int mtaped, .ref a6, .int msize, .int mat, .int mfrom, .int mtoken, .int mvalue, .int mfaultKind, .int mfaultPlace, .ref a14, .ref a15, .int mgoal, .int mgoalDays, .int mgoalHearer, .ref a19, .ref a20, .int mleastOrder, .int mwordsMany, .ref a23, .ref a24, .ref a25, .ref a26, .ref a27, .ref a28])), (a25, .inl (g.2 0, 4, .inl mmany)), (a26, .inl (g.2 0, 4, .inl mwidth)), (a27, .inl (g.2 3, 240, .inr (.inl x581))), (a28, .inl (g.2 3, 60, .inr (.inl x505)))] → va_S A s.heap H locs → lv_has ls 7 [(6, .int x580), (0, .ref h0), (1, .int p1), (2, .int p2), (3, .int p3), (4, .int p4), (5, .int p5)] → W p l e { frames := 2, cells := 0, slots := 0, locals := 45 } s m ([.ref h0, .int p1, .int p2, .int p3, .int p4, .int p5].toArray) below meth c H locs 0 0 (MQ below (QX (S := (Nat → Int32) × (Nat → Nat → Int32) × (Nat → Nat → Int64)) (fun u => some (.int (u.1 0))) (fun u => ((((p1.toInt < 0 ∨ 3 < p1.toInt) ∨ (p3.toInt < 0 ∨ 3 < p3.toInt)) ∧ (u.1 0).toInt = -2) ∨ ((0 ≤ p1.toInt ∧ p1.toInt ≤ 3) ∧ (0 ≤ p3.toInt ∧ p3.toInt ≤ 3) ∧ ((((mmany p1.toNatClampNeg).toInt = -1 ∨ (mmany p3.toNatClampNeg).toInt = -1) ∧ (u.1 0).toInt = -6) ∨ (¬ ((mmany p1.toNatClampNeg).toInt = -1) ∧ ¬ ((mmany p3.toNatClampNeg).toInt = -1) ∧ (((mwidth p1.toNatClampNeg).toInt ≠ (mwidth p3.toNatClampNeg).toInt ∧ (u.1 0).toInt = -8) ∨ ((mwidth p1.toNatClampNeg).toInt = (mwidth p3.toNatClampNeg).toInt ∧ (((p2.toInt < 0 ∨ p4.toInt < 0 ∨ p5.toInt < 0 ∨ (mmany p1.toNatClampNeg).toInt < p2.toInt + p5.toInt ∨ (mmany p3.toNatClampNeg).toInt < p4.toInt + p5.toInt) ∧ (u.1 0).toInt = -7) ∨ (0 ≤ p2.toInt ∧ 0 ≤ p4.toInt ∧ 0 ≤ p5.toInt ∧ p2.toInt + p5.toInt ≤ (mmany p1.toNatClampNeg).toInt ∧ p4.toInt + p5.toInt ≤ (mmany p3.toNatClampNeg).toInt ∧ (u.1 0).toInt = 0))))))))) g (fun u => [(h0, .inr (12, [.int mthrown, .ref a1, .ref a2, .ref a3, .ref a4, .int mtaped, .ref a6, .int msize, .int mat, .int mfrom, .int mtoken, .int mvalue, .int mfaultKind, .int mfaultPlace, .ref a14, .ref a15, .int mgoal, .int mgoalDays, .int mgoalHearer, .ref a19, .ref a20, .int mleastOrder, .int mwordsMany, .ref a23, .ref a24, .ref a25, .ref a26, .ref a27, .ref a28])), (a25, .inl (g.2 0, 4, .inl mmany)), (a26, .inl (g.2 0, 4, .inl mwidth)), (a27, .inl (g.2 3, 240, .inr (.inl (u.2.2 0)))), (a28, .inl (g.2 3, 60, .inr (.inl (u.2.2 1))))]) A) ([.ref h0, .int p1, .int p2, .int p3, .int p4, .int p5].toArray) s 0 0 A) (F0 m 150 ls []) := by
                                  intro n584
                                  induction n584 with
                                  | zero =>
                                    intro x580 x581 H locs ls h_x580 hn585
                                    exact absurd hn585 (Nat.not_lt_zero _)
                                  | succ n584 ih583 =>
                                    intro x580 x581 H locs ls h_x580 hn585 hP hD hS hl
                                    refine lv_iload hx hb dX12_paste_150 (lv_at hl 0 rfl) ?_
                                    refine lv_iload hx hb dX12_paste_152 (lv_at hl 6 rfl) ?_
                                    refine lv_icmp_ge (tgt := 185) hx hb dX12_paste_154 (by decide) (fun c586 => ?_) (fun c586 => ?_)
                                    · have c586 := k_le (a := p5.toInt) (b := x580.toInt) rfl rfl c586
                                      refine lv_iconst (v := 0) hx hb dX12_paste_185 (by decide) ?_
                                      have kc0 : (0 : Int32).toInt = 0 := by decide
                                      exact rt_i FX ((fun k => match k with | 0 => (0 : Int32) | _ => 0), (fun _ => fun _ => 0), (fun k => match k with | 0 => x581 | 1 => x505 | _ => fun _ => 0)) rfl (show (((p1.toInt < 0 ∨ 3 < p1.toInt) ∨ (p3.toInt < 0 ∨ 3 < p3.toInt)) ∧ ((0 : Int32)).toInt = -2) ∨ ((0 ≤ p1.toInt ∧ p1.toInt ≤ 3) ∧ (0 ≤ p3.toInt ∧ p3.toInt ≤ 3) ∧ ((((mmany p1.toNatClampNeg).toInt = -1 ∨ (mmany p3.toNatClampNeg).toInt = -1) ∧ ((0 : Int32)).toInt = -6) ∨ (¬ ((mmany p1.toNatClampNeg).toInt = -1) ∧ ¬ ((mmany p3.toNatClampNeg).toInt = -1) ∧ (((mwidth p1.toNatClampNeg).toInt ≠ (mwidth p3.toNatClampNeg).toInt ∧ ((0 : Int32)).toInt = -8) ∨ ((mwidth p1.toNatClampNeg).toInt = (mwidth p3.toNatClampNeg).toInt ∧ (((p2.toInt < 0 ∨ p4.toInt < 0 ∨ p5.toInt < 0 ∨ (mmany p1.toNatClampNeg).toInt < p2.toInt + p5.toInt ∨ (mmany p3.toNatClampNeg).toInt < p4.toInt + p5.toInt) ∧ ((0 : Int32)).toInt = -7) ∨ (0 ≤ p2.toInt ∧ 0 ≤ p4.toInt ∧ 0 ≤ p5.toInt ∧ p2.toInt + p5.toInt ≤ (mmany p1.toNatClampNeg).toInt ∧ p4.toInt + p5.toInt ≤ (mmany p3.toNatClampNeg).toInt ∧ ((0 : Int32)).toInt = 0))))))) by omega) (hP.sub [0, 1, 2, 3, 4] rfl) (hD.sub [0, 1, 2, 3, 4] (by decide) rfl) hS (Nat.le_of_ble_eq_true rfl) (Nat.le_of_ble_eq_true rfl) dX12_paste_186
                                    · have c586 := k_nle (a := p5.toInt) (b := x580.toInt) rfl rfl c586
                                      refine lv_aload_n hx hb dX12_paste_157 rfl (lv_at hl 1 rfl) ?_
                                      refine g_get (C := RX12) (T := TX12) (N := 29) (ci := 12) (v := .ref a27) FC hKn hP i_X12 0 rfl rfl 27 (by decide) b_929 rfl dX12_paste_158 ?_
                                      refine lv_bipush (v := 60) hx hb dX12_paste_161 (by decide) ?_
                                      refine lv_iload_n hx hb dX12_paste_163 rfl (lv_at hl 4 rfl) ?_
                                      refine lv_imul hx hb dX12_paste_164 ?_
                                      have kc60 : (60 : Int32).toInt = 60 := by decide
                                      refine lv_topi (fun z587 e_z587 => ?_)
                                      have t_z587 : z587.toInt = 60 * p3.toInt := by rw [e_z587, fb_mulI (by rw [show (60 : Int32).toInt = 60 by decide]; omega) (by rw [show (60 : Int32).toInt = 60 by decide]; omega), show (60 : Int32).toInt = 60 by decide]
                                      refine lv_iload hx hb dX12_paste_165 (lv_at hl 5 rfl) ?_
                                      refine lv_iadd hx hb dX12_paste_167 ?_
                                      refine lv_topi (fun z588 e_z588 => ?_)
                                      have t_z588 : z588.toInt = z587.toInt + p4.toInt := by rw [e_z588]; exact fb_addI (by omega) (by omega)
                                      refine lv_iload hx hb dX12_paste_168 (lv_at hl 0 rfl) ?_
                                      refine lv_iadd hx hb dX12_paste_170 ?_
                                      refine lv_topi (fun z589 e_z589 => ?_)
                                      have t_z589 : z589.toInt = z588.toInt + x580.toInt := by rw [e_z589]; exact fb_addI (by omega) (by omega)
                                      refine lv_aload_n hx hb dX12_paste_171 rfl (lv_at hl 1 rfl) ?_
                                      refine g_get (C := RX12) (T := TX12) (N := 29) (ci := 12) (v := .ref a28) FC hKn hP i_X12 0 rfl rfl 28 (by decide) b_1094 rfl dX12_paste_172 ?_
                                      refine lv_iload hx hb dX12_paste_175 (lv_at hl 0 rfl) ?_
                                      refine va_lald hx hb hKn.1 hP 4 3 rfl rfl (vp_in_iff.mpr ⟨by omega, by omega⟩) dX12_paste_177 ?_
                                      refine lv_topl (fun z590 e_z590 => ?_)
                                      refine va_last hx hb hKn.1 hP hD hS 3 3 rfl rfl (vp_in_iff.mpr ⟨by omega, by omega⟩) dX12_paste_178 (fun H locs hP hD hS => ?_)
                                      have hP : va_P g.1 vwCl [(h0, .inr (12, [.int mthrown, .ref a1, .ref a2, .ref a3, .ref a4, .int mtaped, .ref a6, .int msize, .int mat, .int mfrom, .int mtoken, .int mvalue, .int mfaultKind, .int mfaultPlace, .ref a14, .ref a15, .int mgoal, .int mgoalDays, .int mgoalHearer, .ref a19, .ref a20, .int mleastOrder, .int mwordsMany, .ref a23, .ref a24, .ref a25, .ref a26, .ref a27, .ref a28])), (a25, .inl (g.2 0, 4, .inl mmany)), (a26, .inl (g.2 0, 4, .inl mwidth)), (a27, .inl (g.2 3, 240, .inr (.inl (vp_updL x581 (z589.toNatClampNeg) z590)))), (a28, .inl (g.2 3, 60, .inr (.inl x505)))] H := hP
                                      have hD : va_D A [(h0, .inr (12, [.int mthrown, .ref a1, .ref a2, .ref a3, .ref a4, .int mtaped, .ref a6, .int msize, .int mat, .int mfrom, .int mtoken, .int mvalue, .int mfaultKind, .int mfaultPlace, .ref a14, .ref a15, .int mgoal, .int mgoalDays, .int mgoalHearer, .ref a19, .ref a20, .int mleastOrder, .int mwordsMany, .ref a23, .ref a24, .ref a25, .ref a26, .ref a27, .ref a28])), (a25, .inl (g.2 0, 4, .inl mmany)), (a26, .inl (g.2 0, 4, .inl mwidth)), (a27, .inl (g.2 3, 240, .inr (.inl (vp_updL x581 (z589.toNatClampNeg) z590)))), (a28, .inl (g.2 3, 60, .inr (.inl x505)))] := hD
                                      generalize (vp_updL x581 (z589.toNatClampNeg) z590 : Nat → Int64) = f591 at hP hD
                                      obtain ⟨z592, e_z592⟩ : ∃ y : Int32, y = x580 + 1 := ⟨_, rfl⟩
                                      have t_z592 : z592.toInt = x580.toInt + 1 := by rw [e_z592]; exact addk (by decide) (by omega) (by omega)
                                      refine lv_iinc (v := z592) (lv' := [(6, .int z592), (0, .ref h0), (1, .int p1), (2, .int p2), (3, .int p3), (4, .int p4), (5, .int p5)]) hx hb dX12_paste_179 hl (k := 0) rfl (by rw [e_z592]; rfl) (by decide) rfl (fun ls hl => ?_)
                                      refine lv_goto (tgt := 150) hx hb dX12_paste_182 (by decide) ?_
                                      exact ih583 z592 f591 _ _ ls (by omega) (by omega) hP hD hS (lv_sub hl [0, 1, 2, 3, 4, 5, 6] rfl)
                                have kc0 : (0 : Int32).toInt = 0 := by decide
                                exact lp582 _ (0 : Int32) mnumbers _ _ ls (by decide) (Nat.lt_succ_self _) hP hD hS (lv_sub hl [0, 1, 2, 3, 4, 5, 6] rfl)
                              · have c510 := k_nle (a := p5.toInt) (b := x504.toInt) rfl rfl c510
                                refine lv_aload_n hx hb dX12_paste_120 rfl (lv_at hl 1 rfl) ?_
                                refine g_get (C := RX12) (T := TX12) (N := 29) (ci := 12) (v := .ref a28) FC hKn hP i_X12 0 rfl rfl 28 (by decide) b_1094 rfl dX12_paste_121 ?_
                                refine lv_iload hx hb dX12_paste_124 (lv_at hl 0 rfl) ?_
                                refine lv_aload_n hx hb dX12_paste_126 rfl (lv_at hl 1 rfl) ?_
                                refine g_get (C := RX12) (T := TX12) (N := 29) (ci := 12) (v := .ref a27) FC hKn hP i_X12 0 rfl rfl 27 (by decide) b_929 rfl dX12_paste_127 ?_
                                refine lv_bipush (v := 60) hx hb dX12_paste_130 (by decide) ?_
                                refine lv_iload_n hx hb dX12_paste_132 rfl (lv_at hl 2 rfl) ?_
                                refine lv_imul hx hb dX12_paste_133 ?_
                                have kc60 : (60 : Int32).toInt = 60 := by decide
                                refine lv_topi (fun z593 e_z593 => ?_)
                                have t_z593 : z593.toInt = 60 * p1.toInt := by rw [e_z593, fb_mulI (by rw [show (60 : Int32).toInt = 60 by decide]; omega) (by rw [show (60 : Int32).toInt = 60 by decide]; omega), show (60 : Int32).toInt = 60 by decide]
                                refine lv_iload_n hx hb dX12_paste_134 rfl (lv_at hl 3 rfl) ?_
                                refine lv_iadd hx hb dX12_paste_135 ?_
                                refine lv_topi (fun z594 e_z594 => ?_)
                                have t_z594 : z594.toInt = z593.toInt + p2.toInt := by rw [e_z594]; exact fb_addI (by omega) (by omega)
                                refine lv_iload hx hb dX12_paste_136 (lv_at hl 0 rfl) ?_
                                refine lv_iadd hx hb dX12_paste_138 ?_
                                refine lv_topi (fun z595 e_z595 => ?_)
                                have t_z595 : z595.toInt = z594.toInt + x504.toInt := by rw [e_z595]; exact fb_addI (by omega) (by omega)
                                refine va_lald hx hb hKn.1 hP 3 3 rfl rfl (vp_in_iff.mpr ⟨by omega, by omega⟩) dX12_paste_139 ?_
                                refine lv_topl (fun z596 e_z596 => ?_)
                                refine va_last hx hb hKn.1 hP hD hS 4 3 rfl rfl (vp_in_iff.mpr ⟨by omega, by omega⟩) dX12_paste_140 (fun H locs hP hD hS => ?_)
                                have hP : va_P g.1 vwCl [(h0, .inr (12, [.int mthrown, .ref a1, .ref a2, .ref a3, .ref a4, .int mtaped, .ref a6, .int msize, .int mat, .int mfrom, .int mtoken, .int mvalue, .int mfaultKind, .int mfaultPlace, .ref a14, .ref a15, .int mgoal, .int mgoalDays, .int mgoalHearer, .ref a19, .ref a20, .int mleastOrder, .int mwordsMany, .ref a23, .ref a24, .ref a25, .ref a26, .ref a27, .ref a28])), (a25, .inl (g.2 0, 4, .inl mmany)), (a26, .inl (g.2 0, 4, .inl mwidth)), (a27, .inl (g.2 3, 240, .inr (.inl mnumbers))), (a28, .inl (g.2 3, 60, .inr (.inl (vp_updL x505 (x504.toNatClampNeg) z596))))] H := hP
                                have hD : va_D A [(h0, .inr (12, [.int mthrown, .ref a1, .ref a2, .ref a3, .ref a4, .int mtaped, .ref a6, .int msize, .int mat, .int mfrom, .int mtoken, .int mvalue, .int mfaultKind, .int mfaultPlace, .ref a14, .ref a15, .int mgoal, .int mgoalDays, .int mgoalHearer, .ref a19, .ref a20, .int mleastOrder, .int mwordsMany, .ref a23, .ref a24, .ref a25, .ref a26, .ref a27, .ref a28])), (a25, .inl (g.2 0, 4, .inl mmany)), (a26, .inl (g.2 0, 4, .inl mwidth)), (a27, .inl (g.2 3, 240, .inr (.inl mnumbers))), (a28, .inl (g.2 3, 60, .inr (.inl (vp_updL x505 (x504.toNatClampNeg) z596))))] := hD
                                generalize (vp_updL x505 (x504.toNatClampNeg) z596 : Nat → Int64) = f597 at hP hD
                                obtain ⟨z598, e_z598⟩ : ∃ y : Int32, y = x504 + 1 := ⟨_, rfl⟩
                                have t_z598 : z598.toInt = x504.toInt + 1 := by rw [e_z598]; exact addk (by decide) (by omega) (by omega)
                                refine lv_iinc (v := z598) (lv' := [(6, .int z598), (0, .ref h0), (1, .int p1), (2, .int p2), (3, .int p3), (4, .int p4), (5, .int p5)]) hx hb dX12_paste_141 hl (k := 0) rfl (by rw [e_z598]; rfl) (by decide) rfl (fun ls hl => ?_)
                                refine lv_goto (tgt := 113) hx hb dX12_paste_144 (by decide) ?_
                                exact ih507 z598 f597 _ _ ls (by omega) (by omega) hP hD hS (lv_sub hl [0, 1, 2, 3, 4, 5, 6] rfl)
                          have kc0 : (0 : Int32).toInt = 0 := by decide
                          exact lp506 _ (0 : Int32) mmoving _ _ ls (by decide) (Nat.lt_succ_self _) hP hD hS (lv_sub hl [0, 1, 2, 3, 4, 5, 6] rfl)
                        · have c34 := k_nle (a := (lg_cmp z30 z33).toInt) (b := 0) rfl (by decide) c34
                          have c34 := kc_leF c34
                          refine lv_bipush (v := -7) hx hb dX12_paste_107 (by decide) ?_
                          have kcm7 : (-7 : Int32).toInt = -7 := by decide
                          exact rt_i FX ((fun k => match k with | 0 => (-7 : Int32) | _ => 0), (fun _ => fun _ => 0), (fun k => match k with | 0 => mnumbers | 1 => mmoving | _ => fun _ => 0)) rfl (show (((p1.toInt < 0 ∨ 3 < p1.toInt) ∨ (p3.toInt < 0 ∨ 3 < p3.toInt)) ∧ ((-7 : Int32)).toInt = -2) ∨ ((0 ≤ p1.toInt ∧ p1.toInt ≤ 3) ∧ (0 ≤ p3.toInt ∧ p3.toInt ≤ 3) ∧ ((((mmany p1.toNatClampNeg).toInt = -1 ∨ (mmany p3.toNatClampNeg).toInt = -1) ∧ ((-7 : Int32)).toInt = -6) ∨ (¬ ((mmany p1.toNatClampNeg).toInt = -1) ∧ ¬ ((mmany p3.toNatClampNeg).toInt = -1) ∧ (((mwidth p1.toNatClampNeg).toInt ≠ (mwidth p3.toNatClampNeg).toInt ∧ ((-7 : Int32)).toInt = -8) ∨ ((mwidth p1.toNatClampNeg).toInt = (mwidth p3.toNatClampNeg).toInt ∧ (((p2.toInt < 0 ∨ p4.toInt < 0 ∨ p5.toInt < 0 ∨ (mmany p1.toNatClampNeg).toInt < p2.toInt + p5.toInt ∨ (mmany p3.toNatClampNeg).toInt < p4.toInt + p5.toInt) ∧ ((-7 : Int32)).toInt = -7) ∨ (0 ≤ p2.toInt ∧ 0 ≤ p4.toInt ∧ 0 ≤ p5.toInt ∧ p2.toInt + p5.toInt ≤ (mmany p1.toNatClampNeg).toInt ∧ p4.toInt + p5.toInt ≤ (mmany p3.toNatClampNeg).toInt ∧ ((-7 : Int32)).toInt = 0))))))) by omega) (hP.sub [0, 1, 2, 3, 4] rfl) (hD.sub [0, 1, 2, 3, 4] (by decide) rfl) hS (Nat.le_of_ble_eq_true rfl) (Nat.le_of_ble_eq_true rfl) dX12_paste_109
              · have c17 := k_ne (a := z15.toInt) (b := z16.toInt) rfl rfl c17
                refine lv_bipush (v := -8) hx hb dX12_paste_55 (by decide) ?_
                have kcm8 : (-8 : Int32).toInt = -8 := by decide
                exact rt_i FX ((fun k => match k with | 0 => (-8 : Int32) | _ => 0), (fun _ => fun _ => 0), (fun k => match k with | 0 => mnumbers | 1 => mmoving | _ => fun _ => 0)) rfl (show (((p1.toInt < 0 ∨ 3 < p1.toInt) ∨ (p3.toInt < 0 ∨ 3 < p3.toInt)) ∧ ((-8 : Int32)).toInt = -2) ∨ ((0 ≤ p1.toInt ∧ p1.toInt ≤ 3) ∧ (0 ≤ p3.toInt ∧ p3.toInt ≤ 3) ∧ ((((mmany p1.toNatClampNeg).toInt = -1 ∨ (mmany p3.toNatClampNeg).toInt = -1) ∧ ((-8 : Int32)).toInt = -6) ∨ (¬ ((mmany p1.toNatClampNeg).toInt = -1) ∧ ¬ ((mmany p3.toNatClampNeg).toInt = -1) ∧ (((mwidth p1.toNatClampNeg).toInt ≠ (mwidth p3.toNatClampNeg).toInt ∧ ((-8 : Int32)).toInt = -8) ∨ ((mwidth p1.toNatClampNeg).toInt = (mwidth p3.toNatClampNeg).toInt ∧ (((p2.toInt < 0 ∨ p4.toInt < 0 ∨ p5.toInt < 0 ∨ (mmany p1.toNatClampNeg).toInt < p2.toInt + p5.toInt ∨ (mmany p3.toNatClampNeg).toInt < p4.toInt + p5.toInt) ∧ ((-8 : Int32)).toInt = -7) ∨ (0 ≤ p2.toInt ∧ 0 ≤ p4.toInt ∧ 0 ≤ p5.toInt ∧ p2.toInt + p5.toInt ≤ (mmany p1.toNatClampNeg).toInt ∧ p4.toInt + p5.toInt ≤ (mmany p3.toNatClampNeg).toInt ∧ ((-8 : Int32)).toInt = 0))))))) by omega) (hP.sub [0, 1, 2, 3, 4] rfl) (hD.sub [0, 1, 2, 3, 4] (by decide) rfl) hS (Nat.le_of_ble_eq_true rfl) (Nat.le_of_ble_eq_true rfl) dX12_paste_57
            · have c14 := k_eq (a := z13.toInt) (b := -1) rfl (by decide) c14
              refine lv_bipush (v := -6) hx hb dX12_paste_37 (by decide) ?_
              have kcm6 : (-6 : Int32).toInt = -6 := by decide
              exact rt_i FX ((fun k => match k with | 0 => (-6 : Int32) | _ => 0), (fun _ => fun _ => 0), (fun k => match k with | 0 => mnumbers | 1 => mmoving | _ => fun _ => 0)) rfl (show (((p1.toInt < 0 ∨ 3 < p1.toInt) ∨ (p3.toInt < 0 ∨ 3 < p3.toInt)) ∧ ((-6 : Int32)).toInt = -2) ∨ ((0 ≤ p1.toInt ∧ p1.toInt ≤ 3) ∧ (0 ≤ p3.toInt ∧ p3.toInt ≤ 3) ∧ ((((mmany p1.toNatClampNeg).toInt = -1 ∨ (mmany p3.toNatClampNeg).toInt = -1) ∧ ((-6 : Int32)).toInt = -6) ∨ (¬ ((mmany p1.toNatClampNeg).toInt = -1) ∧ ¬ ((mmany p3.toNatClampNeg).toInt = -1) ∧ (((mwidth p1.toNatClampNeg).toInt ≠ (mwidth p3.toNatClampNeg).toInt ∧ ((-6 : Int32)).toInt = -8) ∨ ((mwidth p1.toNatClampNeg).toInt = (mwidth p3.toNatClampNeg).toInt ∧ (((p2.toInt < 0 ∨ p4.toInt < 0 ∨ p5.toInt < 0 ∨ (mmany p1.toNatClampNeg).toInt < p2.toInt + p5.toInt ∨ (mmany p3.toNatClampNeg).toInt < p4.toInt + p5.toInt) ∧ ((-6 : Int32)).toInt = -7) ∨ (0 ≤ p2.toInt ∧ 0 ≤ p4.toInt ∧ 0 ≤ p5.toInt ∧ p2.toInt + p5.toInt ≤ (mmany p1.toNatClampNeg).toInt ∧ p4.toInt + p5.toInt ≤ (mmany p3.toNatClampNeg).toInt ∧ ((-6 : Int32)).toInt = 0))))))) by omega) (hP.sub [0, 1, 2, 3, 4] rfl) (hD.sub [0, 1, 2, 3, 4] (by decide) rfl) hS (Nat.le_of_ble_eq_true rfl) (Nat.le_of_ble_eq_true rfl) dX12_paste_39
        · have c10 := k_eq (a := (u6.1 0).toInt) (b := 0) rfl (by decide) c10
          exfalso; omega
