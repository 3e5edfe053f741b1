set_option maxRecDepth 100000 in
set_option maxHeartbeats 4000000 in
theorem c_X12_in (l : Launch) (g : GG) (v : Int64) (lo : Int64) (hi : Int64) : Ct l g yX12_in cX12_in 6 (some .boolean) { frames := 0, cells := 0, slots := 0, locals := 0 } [.long v, .long lo, .long hi] [] (S := Unit) (fun _ => some (.int (inF v lo hi))) (fun _ => True) (fun u => []) := by
  refine Ct.of (by decide) (Nat.le_of_ble_eq_true rfl) ?_
  intro p e s m below meth c A ls FX hP hD hS hl
  obtain ⟨FC, hr, hlk, hKn, hA, hnm⟩ := id FX
  have FC : CallFix p m c cX12_in 6 s _ BIG RX12 := FC
  obtain ⟨hx, hb, hml, hown, hB⟩ := id FC
  have hl : lv_has ls 6 [(0, .long v), (2, .long lo), (4, .long hi)] := hl
  refine lv_lload_n hx hb dX12_in_0 rfl (lv_at hl 0 rfl) ?_
  refine lv_lload_n hx hb dX12_in_1 rfl (lv_at hl 1 rfl) ?_
  refine W.lcmp hx hb dX12_in_2 ?_
  refine lv_if_lt (tgt := 17) hx hb dX12_in_3 (by decide) (fun c1 => ?_) (fun c1 => ?_)
  · have c1 := k_lt (a := (lg_cmp v lo).toInt) (b := 0) rfl (by decide) c1
    have c1 := kc_ltT c1
    refine lv_iconst (v := 0) hx hb dX12_in_17 (by decide) ?_
    exact rt_z FX rfl () (congrArg (fun z => some (Value.int z)) (show (0 : Int32) = _ from by unfold inF; (repeat' split) <;> first | rfl | (exfalso; omega))) trivial (hP.sub [] rfl) (hD.sub [] (by decide) rfl) hS (Nat.le_of_ble_eq_true rfl) (Nat.le_of_ble_eq_true rfl) dX12_in_18
  · have c1 := k_nlt (a := (lg_cmp v lo).toInt) (b := 0) rfl (by decide) c1
    have c1 := kc_ltF c1
    refine lv_lload_n hx hb dX12_in_6 rfl (lv_at hl 0 rfl) ?_
    refine lv_lload hx hb dX12_in_7 (lv_at hl 2 rfl) ?_
    refine W.lcmp hx hb dX12_in_9 ?_
    refine lv_if_gt (tgt := 17) hx hb dX12_in_10 (by decide) (fun c2 => ?_) (fun c2 => ?_)
    · have c2 := k_lt (a := 0) (b := (lg_cmp v hi).toInt) (by decide) rfl c2
      have c2 := kc_gtT c2
      refine lv_iconst (v := 0) hx hb dX12_in_17 (by decide) ?_
      exact rt_z FX rfl () (congrArg (fun z => some (Value.int z)) (show (0 : Int32) = _ from by unfold inF; (repeat' split) <;> first | rfl | (exfalso; omega))) trivial (hP.sub [] rfl) (hD.sub [] (by decide) rfl) hS (Nat.le_of_ble_eq_true rfl) (Nat.le_of_ble_eq_true rfl) dX12_in_18
    · have c2 := k_nlt (a := 0) (b := (lg_cmp v hi).toInt) (by decide) rfl c2
      have c2 := kc_gtF c2
      refine lv_iconst (v := 1) hx hb dX12_in_13 (by decide) ?_
      refine lv_goto (tgt := 18) hx hb dX12_in_14 (by decide) ?_
      exact rt_z FX rfl () (congrArg (fun z => some (Value.int z)) (show (1 : Int32) = _ from by unfold inF; (repeat' split) <;> first | rfl | (exfalso; omega))) trivial (hP.sub [] rfl) (hD.sub [] (by decide) rfl) hS (Nat.le_of_ble_eq_true rfl) (Nat.le_of_ble_eq_true rfl) dX12_in_18
set_option maxRecDepth 100000 in
set_option maxHeartbeats 4000000 in
theorem c_X12_isSlot (l : Launch) (g : GG) (p0 : Int32) : Ct l g yX12_isSlot cX12_isSlot 1 (some .boolean) { frames := 1, cells := 0, slots := 0, locals := 25 } [.int p0] [] (S := Unit) (fun _ => some (.int (sp_slot p0))) (fun _ => True) (fun u => []) := by
  refine Ct.of (by decide) (Nat.le_of_ble_eq_true rfl) ?_
  intro p e s m below meth c A ls FX hP hD hS hl
  obtain ⟨FC, hr, hlk, hKn, hA, hnm⟩ := id FX
  have FC : CallFix p m c cX12_isSlot 1 s _ BIG RX12 := FC
  obtain ⟨hx, hb, hml, hown, hB⟩ := id FC
  have hl : lv_has ls 1 [(0, .int p0)] := hl
  refine lv_iload_n hx hb dX12_isSlot_0 rfl (lv_at hl 0 rfl) ?_
  refine lv_i2l (v := p0.toInt64) hx hb dX12_isSlot_1 rfl ?_
  refine lv_lconst (v := 0) hx hb dX12_isSlot_2 (by decide) ?_
  refine lv_ldc2 hx hb hown (hB _ b_359) dX12_isSlot_3 ?_
  refine call_S (As := [.long p0.toInt64, .long 0, .long 3]) (rest := []) (wr := []) FC hKn (c_X12_in l g p0.toInt64 0 3) m_yX12_in b_360 hP hD hS hA [] [] rfl (by decide) rfl (by decide) (by decide) rfl hl.1 rfl (Nat.le_of_ble_eq_true rfl) dX12_isSlot_6 ⟨(Nat.le_of_ble_eq_true rfl), (Nat.le_of_ble_eq_true rfl)⟩ ⟨(Nat.le_of_ble_eq_true rfl), (Nat.le_of_ble_eq_true rfl)⟩ (fun u1 H locs _ hP hD hS => ?_)
  have hP : va_P g.1 vwCl [] H := hP
  have hD : va_D A [] := hD
  refine W.eq (g2 := F0 m 9 ls [.int (inF p0.toInt64 0 3)]) rfl ?_
  by_cases c2 : 0 ≤ p0.toInt ∧ p0.toInt ≤ 3
  · refine tp_i (v := 1) (inF_yes (Int32.toInt_toInt64 _) (by decide) (by decide) c2) ?_
    exact rt_z FX rfl () (congrArg (fun z => some (Value.int z)) (show (1 : Int32) = _ from by unfold sp_slot; (repeat' split) <;> first | rfl | (exfalso; omega))) trivial (hP.sub [] rfl) (hD.sub [] (by decide) rfl) hS (Nat.le_of_ble_eq_true rfl) (Nat.le_of_ble_eq_true rfl) dX12_isSlot_9
  · refine tp_i (v := 0) (inF_not (Int32.toInt_toInt64 _) (by decide) (by decide) c2) ?_
    exact rt_z FX rfl () (congrArg (fun z => some (Value.int z)) (show (0 : Int32) = _ from by unfold sp_slot; (repeat' split) <;> first | rfl | (exfalso; omega))) trivial (hP.sub [] rfl) (hD.sub [] (by decide) rfl) hS (Nat.le_of_ble_eq_true rfl) (Nat.le_of_ble_eq_true rfl) dX12_isSlot_9
set_option maxRecDepth 100000 in
set_option maxHeartbeats 4000000 in
theorem c_X12_isSeed (l : Launch) (g : GG) (p0 : Int32) : Ct l g yX12_isSeed cX12_isSeed 1 (some .boolean) { frames := 1, cells := 0, slots := 0, locals := 25 } [.int p0] [] (S := Unit) (fun _ => some (.int (sp_seed p0))) (fun _ => True) (fun u => []) := by
  refine Ct.of (by decide) (Nat.le_of_ble_eq_true rfl) ?_
  intro p e s m below meth c A ls FX hP hD hS hl
  obtain ⟨FC, hr, hlk, hKn, hA, hnm⟩ := id FX
  have FC : CallFix p m c cX12_isSeed 1 s _ BIG RX12 := FC
  obtain ⟨hx, hb, hml, hown, hB⟩ := id FC
  have hl : lv_has ls 1 [(0, .int p0)] := hl
  refine lv_iload_n hx hb dX12_isSeed_0 rfl (lv_at hl 0 rfl) ?_
  refine lv_i2l (v := p0.toInt64) hx hb dX12_isSeed_1 rfl ?_
  refine lv_lconst (v := 0) hx hb dX12_isSeed_2 (by decide) ?_
  refine lv_ldc2 hx hb hown (hB _ b_361) dX12_isSeed_3 ?_
  refine call_S (As := [.long p0.toInt64, .long 0, .long 2000000000]) (rest := []) (wr := []) FC hKn (c_X12_in l g p0.toInt64 0 2000000000) m_yX12_in b_360 hP hD hS hA [] [] rfl (by decide) rfl (by decide) (by decide) rfl hl.1 rfl (Nat.le_of_ble_eq_true rfl) dX12_isSeed_6 ⟨(Nat.le_of_ble_eq_true rfl), (Nat.le_of_ble_eq_true rfl)⟩ ⟨(Nat.le_of_ble_eq_true rfl), (Nat.le_of_ble_eq_true rfl)⟩ (fun u1 H locs _ hP hD hS => ?_)
  have hP : va_P g.1 vwCl [] H := hP
  have hD : va_D A [] := hD
  refine W.eq (g2 := F0 m 9 ls [.int (inF p0.toInt64 0 2000000000)]) rfl ?_
  by_cases c2 : 0 ≤ p0.toInt ∧ p0.toInt ≤ 2000000000
  · refine tp_i (v := 1) (inF_yes (Int32.toInt_toInt64 _) (by decide) (by decide) c2) ?_
    exact rt_z FX rfl () (congrArg (fun z => some (Value.int z)) (show (1 : Int32) = _ from by unfold sp_seed; (repeat' split) <;> first | rfl | (exfalso; omega))) trivial (hP.sub [] rfl) (hD.sub [] (by decide) rfl) hS (Nat.le_of_ble_eq_true rfl) (Nat.le_of_ble_eq_true rfl) dX12_isSeed_9
  · refine tp_i (v := 0) (inF_not (Int32.toInt_toInt64 _) (by decide) (by decide) c2) ?_
    exact rt_z FX rfl () (congrArg (fun z => some (Value.int z)) (show (0 : Int32) = _ from by unfold sp_seed; (repeat' split) <;> first | rfl | (exfalso; omega))) trivial (hP.sub [] rfl) (hD.sub [] (by decide) rfl) hS (Nat.le_of_ble_eq_true rfl) (Nat.le_of_ble_eq_true rfl) dX12_isSeed_9
set_option maxRecDepth 100000 in
set_option maxHeartbeats 4000000 in
theorem c_X12_isDesk (l : Launch) (g : GG) (h0 : Nat) (a1 : Nat) (a2 : Nat) (a3 : Nat) (a4 : Nat) (a6 : Nat) (a14 : Nat) (a15 : Nat) (a19 : Nat) (a20 : Nat) (a23 : Nat) (a24 : Nat) (a25 : Nat) (a26 : Nat) (a27 : Nat) (a28 : Nat) : Ct l g yX12_isDesk cX12_isDesk 1 (some .boolean) { frames := 0, cells := 0, slots := 0, locals := 0 } [.ref h0] [(h0, .inr (12, [.int 0, .ref a1, .ref a2, .ref a3, .ref a4, .int 0, .ref a6, .int 0, .int 0, .int 0, .int 0, .int 0, .int 0, .int (-1), .ref a14, .ref a15, .int 0, .int 0, .int 0, .ref a19, .ref a20, .int 0, .int 0, .ref a23, .ref a24, .ref a25, .ref a26, .ref a27, .ref a28])), (a1, .inl (g.2 0, 225, .inl (fun _ => 0)))] (S := Unit) (fun _ => some (.int 0)) (fun _ => True) (fun u => [(h0, .inr (12, [.int 0, .ref a1, .ref a2, .ref a3, .ref a4, .int 0, .ref a6, .int 0, .int 0, .int 0, .int 0, .int 0, .int 0, .int (-1), .ref a14, .ref a15, .int 0, .int 0, .int 0, .ref a19, .ref a20, .int 0, .int 0, .ref a23, .ref a24, .ref a25, .ref a26, .ref a27, .ref a28])), (a1, .inl (g.2 0, 225, .inl (fun _ => 0)))]) := by
  refine Ct.of (by decide) (Nat.le_of_ble_eq_true rfl) ?_
  intro p e s m below meth c A ls FX hP hD hS hl
  obtain ⟨FC, hr, hlk, hKn, hA, hnm⟩ := id FX
  have FC : CallFix p m c cX12_isDesk 1 s _ BIG RX12 := FC
  obtain ⟨hx, hb, hml, hown, hB⟩ := id FC
  have hl : lv_has ls 1 [(0, .ref h0)] := hl
  refine lv_aload_n hx hb dX12_isDesk_0 rfl (lv_at hl 0 rfl) ?_
  refine g_get (C := RX12) (T := TX12) (N := 29) (ci := 12) (v := .ref a1) FC hKn hP i_X12 0 rfl rfl 1 (by decide) b_362 rfl dX12_isDesk_1 ?_
  refine lv_bipush (v := 9) hx hb dX12_isDesk_4 (by decide) ?_
  refine va_iald hx hb hKn.1 hP 1 0 rfl rfl (by unfold vp_in; decide) dX12_isDesk_6 ?_
  refine tp_i (v := 0) rfl ?_
  refine lv_if_le (tgt := 14) hx hb dX12_isDesk_7 (by decide) (fun _ => ?_) (fun h => absurd h (by decide))
  refine lv_iconst (v := 0) hx hb dX12_isDesk_14 (by decide) ?_
  exact rt_z FX rfl () rfl trivial (hP.sub [0, 1] rfl) (hD.sub [0, 1] (by decide) rfl) hS (Nat.le_of_ble_eq_true rfl) (Nat.le_of_ble_eq_true rfl) dX12_isDesk_15
set_option maxRecDepth 100000 in
set_option maxHeartbeats 4000000 in
theorem c_X12_isState (l : Launch) (g : GG) (h0 : Nat) (a1 : Nat) (a2 : Nat) (a3 : Nat) (a4 : Nat) (a6 : Nat) (a14 : Nat) (a15 : Nat) (a19 : Nat) (a20 : Nat) (a23 : Nat) (a24 : Nat) (a25 : Nat) (a26 : Nat) (a27 : Nat) (a28 : Nat) (p1 : Int32) : Ct l g yX12_isState cX12_isState 2 (some .boolean) { frames := 1, cells := 0, slots := 0, locals := 25 } [.ref h0, .int p1] [(h0, .inr (12, [.int 0, .ref a1, .ref a2, .ref a3, .ref a4, .int 0, .ref a6, .int 0, .int 0, .int 0, .int 0, .int 0, .int 0, .int (-1), .ref a14, .ref a15, .int 0, .int 0, .int 0, .ref a19, .ref a20, .int 0, .int 0, .ref a23, .ref a24, .ref a25, .ref a26, .ref a27, .ref a28])), (a1, .inl (g.2 0, 225, .inl (fun _ => 0)))] (S := Unit) (fun _ => some (.int 0)) (fun _ => True) (fun u => [(h0, .inr (12, [.int 0, .ref a1, .ref a2, .ref a3, .ref a4, .int 0, .ref a6, .int 0, .int 0, .int 0, .int 0, .int 0, .int 0, .int (-1), .ref a14, .ref a15, .int 0, .int 0, .int 0, .ref a19, .ref a20, .int 0, .int 0, .ref a23, .ref a24, .ref a25, .ref a26, .ref a27, .ref a28])), (a1, .inl (g.2 0, 225, .inl (fun _ => 0)))]) := by
  refine Ct.of (by decide) (Nat.le_of_ble_eq_true rfl) ?_
  intro p e s m below meth c A ls FX hP hD hS hl
  obtain ⟨FC, hr, hlk, hKn, hA, hnm⟩ := id FX
  have FC : CallFix p m c cX12_isState 2 s _ BIG RX12 := FC
  obtain ⟨hx, hb, hml, hown, hB⟩ := id FC
  have hl : lv_has ls 2 [(0, .ref h0), (1, .int p1)] := hl
  refine lv_iload_n hx hb dX12_isState_0 rfl (lv_at hl 1 rfl) ?_
  refine lv_i2l (v := p1.toInt64) hx hb dX12_isState_1 rfl ?_
  refine lv_lconst (v := 0) hx hb dX12_isState_2 (by decide) ?_
  refine lv_aload_n hx hb dX12_isState_3 rfl (lv_at hl 0 rfl) ?_
  refine g_get (C := RX12) (T := TX12) (N := 29) (ci := 12) (v := .ref a1) FC hKn hP i_X12 0 rfl rfl 1 (by decide) b_362 rfl dX12_isState_4 ?_
  refine lv_iconst (v := 0) hx hb dX12_isState_7 (by decide) ?_
  refine va_iald hx hb hKn.1 hP 1 0 rfl rfl (by unfold vp_in; decide) dX12_isState_8 ?_
  refine tp_i (v := 0) rfl ?_
  refine lv_iconst (v := 1) hx hb dX12_isState_9 (by decide) ?_
  refine lv_isub hx hb dX12_isState_10 ?_
  refine tp_i (v := -1) (by decide) ?_
  refine lv_i2l (v := -1) hx hb dX12_isState_11 (by decide) ?_
  refine call_S (As := [.long p1.toInt64, .long 0, .long (-1)]) (rest := []) (wr := [(h0, .inr (12, [.int 0, .ref a1, .ref a2, .ref a3, .ref a4, .int 0, .ref a6, .int 0, .int 0, .int 0, .int 0, .int 0, .int 0, .int (-1), .ref a14, .ref a15, .int 0, .int 0, .int 0, .ref a19, .ref a20, .int 0, .int 0, .ref a23, .ref a24, .ref a25, .ref a26, .ref a27, .ref a28])), (a1, .inl (g.2 0, 225, .inl (fun _ => 0)))]) FC hKn (c_X12_in l g p1.toInt64 0 (-1)) m_yX12_in b_360 hP hD hS hA [] [0, 1] rfl (by decide) rfl (by decide) (by decide) rfl hl.1 rfl (Nat.le_of_ble_eq_true rfl) dX12_isState_12 ⟨(Nat.le_of_ble_eq_true rfl), (Nat.le_of_ble_eq_true rfl)⟩ ⟨(Nat.le_of_ble_eq_true rfl), (Nat.le_of_ble_eq_true rfl)⟩ (fun u1 H locs _ hP hD hS => ?_)
  have hP : va_P g.1 vwCl [(h0, .inr (12, [.int 0, .ref a1, .ref a2, .ref a3, .ref a4, .int 0, .ref a6, .int 0, .int 0, .int 0, .int 0, .int 0, .int 0, .int (-1), .ref a14, .ref a15, .int 0, .int 0, .int 0, .ref a19, .ref a20, .int 0, .int 0, .ref a23, .ref a24, .ref a25, .ref a26, .ref a27, .ref a28])), (a1, .inl (g.2 0, 225, .inl (fun _ => 0)))] H := hP
  have hD : va_D A [(h0, .inr (12, [.int 0, .ref a1, .ref a2, .ref a3, .ref a4, .int 0, .ref a6, .int 0, .int 0, .int 0, .int 0, .int 0, .int 0, .int (-1), .ref a14, .ref a15, .int 0, .int 0, .int 0, .ref a19, .ref a20, .int 0, .int 0, .ref a23, .ref a24, .ref a25, .ref a26, .ref a27, .ref a28])), (a1, .inl (g.2 0, 225, .inl (fun _ => 0)))] := hD
  refine W.eq (g2 := F0 m 15 ls [.int (inF p1.toInt64 0 (-1))]) rfl ?_
  refine tp_i (v := 0) (inF_no (by decide)) ?_
  exact rt_z FX rfl () rfl trivial (hP.sub [0, 1] rfl) (hD.sub [0, 1] (by decide) rfl) hS (Nat.le_of_ble_eq_true rfl) (Nat.le_of_ble_eq_true rfl) dX12_isState_15
set_option maxRecDepth 100000 in
set_option maxHeartbeats 4000000 in
theorem c_X12_isHearer (l : Launch) (g : GG) (h0 : Nat) (a1 : Nat) (a2 : Nat) (a3 : Nat) (a4 : Nat) (a6 : Nat) (a14 : Nat) (a15 : Nat) (a19 : Nat) (a20 : Nat) (a23 : Nat) (a24 : Nat) (a25 : Nat) (a26 : Nat) (a27 : Nat) (a28 : Nat) (p1 : Int32) : Ct l g yX12_isHearer cX12_isHearer 2 (some .boolean) { frames := 1, cells := 0, slots := 0, locals := 25 } [.ref h0, .int p1] [(h0, .inr (12, [.int 0, .ref a1, .ref a2, .ref a3, .ref a4, .int 0, .ref a6, .int 0, .int 0, .int 0, .int 0, .int 0, .int 0, .int (-1), .ref a14, .ref a15, .int 0, .int 0, .int 0, .ref a19, .ref a20, .int 0, .int 0, .ref a23, .ref a24, .ref a25, .ref a26, .ref a27, .ref a28])), (a1, .inl (g.2 0, 225, .inl (fun _ => 0)))] (S := Unit) (fun _ => some (.int 0)) (fun _ => True) (fun u => [(h0, .inr (12, [.int 0, .ref a1, .ref a2, .ref a3, .ref a4, .int 0, .ref a6, .int 0, .int 0, .int 0, .int 0, .int 0, .int 0, .int (-1), .ref a14, .ref a15, .int 0, .int 0, .int 0, .ref a19, .ref a20, .int 0, .int 0, .ref a23, .ref a24, .ref a25, .ref a26, .ref a27, .ref a28])), (a1, .inl (g.2 0, 225, .inl (fun _ => 0)))]) := by
  refine Ct.of (by decide) (Nat.le_of_ble_eq_true rfl) ?_
  intro p e s m below meth c A ls FX hP hD hS hl
  obtain ⟨FC, hr, hlk, hKn, hA, hnm⟩ := id FX
  have FC : CallFix p m c cX12_isHearer 2 s _ BIG RX12 := FC
  obtain ⟨hx, hb, hml, hown, hB⟩ := id FC
  have hl : lv_has ls 2 [(0, .ref h0), (1, .int p1)] := hl
  refine lv_iload_n hx hb dX12_isHearer_0 rfl (lv_at hl 1 rfl) ?_
  refine lv_i2l (v := p1.toInt64) hx hb dX12_isHearer_1 rfl ?_
  refine lv_lconst (v := 0) hx hb dX12_isHearer_2 (by decide) ?_
  refine lv_aload_n hx hb dX12_isHearer_3 rfl (lv_at hl 0 rfl) ?_
  refine g_get (C := RX12) (T := TX12) (N := 29) (ci := 12) (v := .ref a1) FC hKn hP i_X12 0 rfl rfl 1 (by decide) b_362 rfl dX12_isHearer_4 ?_
  refine lv_iconst (v := 5) hx hb dX12_isHearer_7 (by decide) ?_
  refine va_iald hx hb hKn.1 hP 1 0 rfl rfl (by unfold vp_in; decide) dX12_isHearer_8 ?_
  refine tp_i (v := 0) rfl ?_
  refine lv_iconst (v := 1) hx hb dX12_isHearer_9 (by decide) ?_
  refine lv_isub hx hb dX12_isHearer_10 ?_
  refine tp_i (v := -1) (by decide) ?_
  refine lv_i2l (v := -1) hx hb dX12_isHearer_11 (by decide) ?_
  refine call_S (As := [.long p1.toInt64, .long 0, .long (-1)]) (rest := []) (wr := [(h0, .inr (12, [.int 0, .ref a1, .ref a2, .ref a3, .ref a4, .int 0, .ref a6, .int 0, .int 0, .int 0, .int 0, .int 0, .int 0, .int (-1), .ref a14, .ref a15, .int 0, .int 0, .int 0, .ref a19, .ref a20, .int 0, .int 0, .ref a23, .ref a24, .ref a25, .ref a26, .ref a27, .ref a28])), (a1, .inl (g.2 0, 225, .inl (fun _ => 0)))]) FC hKn (c_X12_in l g p1.toInt64 0 (-1)) m_yX12_in b_360 hP hD hS hA [] [0, 1] rfl (by decide) rfl (by decide) (by decide) rfl hl.1 rfl (Nat.le_of_ble_eq_true rfl) dX12_isHearer_12 ⟨(Nat.le_of_ble_eq_true rfl), (Nat.le_of_ble_eq_true rfl)⟩ ⟨(Nat.le_of_ble_eq_true rfl), (Nat.le_of_ble_eq_true rfl)⟩ (fun u1 H locs _ hP hD hS => ?_)
  have hP : va_P g.1 vwCl [(h0, .inr (12, [.int 0, .ref a1, .ref a2, .ref a3, .ref a4, .int 0, .ref a6, .int 0, .int 0, .int 0, .int 0, .int 0, .int 0, .int (-1), .ref a14, .ref a15, .int 0, .int 0, .int 0, .ref a19, .ref a20, .int 0, .int 0, .ref a23, .ref a24, .ref a25, .ref a26, .ref a27, .ref a28])), (a1, .inl (g.2 0, 225, .inl (fun _ => 0)))] H := hP
  have hD : va_D A [(h0, .inr (12, [.int 0, .ref a1, .ref a2, .ref a3, .ref a4, .int 0, .ref a6, .int 0, .int 0, .int 0, .int 0, .int 0, .int 0, .int (-1), .ref a14, .ref a15, .int 0, .int 0, .int 0, .ref a19, .ref a20, .int 0, .int 0, .ref a23, .ref a24, .ref a25, .ref a26, .ref a27, .ref a28])), (a1, .inl (g.2 0, 225, .inl (fun _ => 0)))] := hD
  refine W.eq (g2 := F0 m 15 ls [.int (inF p1.toInt64 0 (-1))]) rfl ?_
  refine tp_i (v := 0) (inF_no (by decide)) ?_
  exact rt_z FX rfl () rfl trivial (hP.sub [0, 1] rfl) (hD.sub [0, 1] (by decide) rfl) hS (Nat.le_of_ble_eq_true rfl) (Nat.le_of_ble_eq_true rfl) dX12_isHearer_15
set_option maxRecDepth 100000 in
set_option maxHeartbeats 4000000 in
theorem c_X12_isWord (l : Launch) (g : GG) (h0 : Nat) (a1 : Nat) (a2 : Nat) (a3 : Nat) (a4 : Nat) (a6 : Nat) (a14 : Nat) (a15 : Nat) (a19 : Nat) (a20 : Nat) (a23 : Nat) (a24 : Nat) (a25 : Nat) (a26 : Nat) (a27 : Nat) (a28 : Nat) (p1 : Int64) : Ct l g yX12_isWord cX12_isWord 3 (some .boolean) { frames := 1, cells := 0, slots := 0, locals := 25 } [.ref h0, .long p1] [(h0, .inr (12, [.int 0, .ref a1, .ref a2, .ref a3, .ref a4, .int 0, .ref a6, .int 0, .int 0, .int 0, .int 0, .int 0, .int 0, .int (-1), .ref a14, .ref a15, .int 0, .int 0, .int 0, .ref a19, .ref a20, .int 0, .int 0, .ref a23, .ref a24, .ref a25, .ref a26, .ref a27, .ref a28])), (a1, .inl (g.2 0, 225, .inl (fun _ => 0)))] (S := Unit) (fun _ => some (.int 0)) (fun _ => True) (fun u => [(h0, .inr (12, [.int 0, .ref a1, .ref a2, .ref a3, .ref a4, .int 0, .ref a6, .int 0, .int 0, .int 0, .int 0, .int 0, .int 0, .int (-1), .ref a14, .ref a15, .int 0, .int 0, .int 0, .ref a19, .ref a20, .int 0, .int 0, .ref a23, .ref a24, .ref a25, .ref a26, .ref a27, .ref a28])), (a1, .inl (g.2 0, 225, .inl (fun _ => 0)))]) := by
  refine Ct.of (by decide) (Nat.le_of_ble_eq_true rfl) ?_
  intro p e s m below meth c A ls FX hP hD hS hl
  obtain ⟨FC, hr, hlk, hKn, hA, hnm⟩ := id FX
  have FC : CallFix p m c cX12_isWord 3 s _ BIG RX12 := FC
  obtain ⟨hx, hb, hml, hown, hB⟩ := id FC
  have hl : lv_has ls 3 [(0, .ref h0), (1, .long p1)] := hl
  refine lv_lload_n hx hb dX12_isWord_0 rfl (lv_at hl 1 rfl) ?_
  refine lv_lconst (v := 0) hx hb dX12_isWord_1 (by decide) ?_
  refine lv_aload_n hx hb dX12_isWord_2 rfl (lv_at hl 0 rfl) ?_
  refine g_get (C := RX12) (T := TX12) (N := 29) (ci := 12) (v := .ref a1) FC hKn hP i_X12 0 rfl rfl 1 (by decide) b_362 rfl dX12_isWord_3 ?_
  refine lv_bipush (v := 6) hx hb dX12_isWord_6 (by decide) ?_
  refine va_iald hx hb hKn.1 hP 1 0 rfl rfl (by unfold vp_in; decide) dX12_isWord_8 ?_
  refine tp_i (v := 0) rfl ?_
  refine lv_iconst (v := 1) hx hb dX12_isWord_9 (by decide) ?_
  refine lv_isub hx hb dX12_isWord_10 ?_
  refine tp_i (v := -1) (by decide) ?_
  refine lv_i2l (v := -1) hx hb dX12_isWord_11 (by decide) ?_
  refine call_S (As := [.long p1, .long 0, .long (-1)]) (rest := []) (wr := [(h0, .inr (12, [.int 0, .ref a1, .ref a2, .ref a3, .ref a4, .int 0, .ref a6, .int 0, .int 0, .int 0, .int 0, .int 0, .int 0, .int (-1), .ref a14, .ref a15, .int 0, .int 0, .int 0, .ref a19, .ref a20, .int 0, .int 0, .ref a23, .ref a24, .ref a25, .ref a26, .ref a27, .ref a28])), (a1, .inl (g.2 0, 225, .inl (fun _ => 0)))]) FC hKn (c_X12_in l g p1 0 (-1)) m_yX12_in b_360 hP hD hS hA [] [0, 1] rfl (by decide) rfl (by decide) (by decide) rfl hl.1 rfl (Nat.le_of_ble_eq_true rfl) dX12_isWord_12 ⟨(Nat.le_of_ble_eq_true rfl), (Nat.le_of_ble_eq_true rfl)⟩ ⟨(Nat.le_of_ble_eq_true rfl), (Nat.le_of_ble_eq_true rfl)⟩ (fun u1 H locs _ hP hD hS => ?_)
  have hP : va_P g.1 vwCl [(h0, .inr (12, [.int 0, .ref a1, .ref a2, .ref a3, .ref a4, .int 0, .ref a6, .int 0, .int 0, .int 0, .int 0, .int 0, .int 0, .int (-1), .ref a14, .ref a15, .int 0, .int 0, .int 0, .ref a19, .ref a20, .int 0, .int 0, .ref a23, .ref a24, .ref a25, .ref a26, .ref a27, .ref a28])), (a1, .inl (g.2 0, 225, .inl (fun _ => 0)))] H := hP
  have hD : va_D A [(h0, .inr (12, [.int 0, .ref a1, .ref a2, .ref a3, .ref a4, .int 0, .ref a6, .int 0, .int 0, .int 0, .int 0, .int 0, .int 0, .int (-1), .ref a14, .ref a15, .int 0, .int 0, .int 0, .ref a19, .ref a20, .int 0, .int 0, .ref a23, .ref a24, .ref a25, .ref a26, .ref a27, .ref a28])), (a1, .inl (g.2 0, 225, .inl (fun _ => 0)))] := hD
  refine W.eq (g2 := F0 m 15 ls [.int (inF p1 0 (-1))]) rfl ?_
  refine tp_i (v := 0) (inF_no (by decide)) ?_
  exact rt_z FX rfl () rfl trivial (hP.sub [0, 1] rfl) (hD.sub [0, 1] (by decide) rfl) hS (Nat.le_of_ble_eq_true rfl) (Nat.le_of_ble_eq_true rfl) dX12_isWord_15
set_option maxRecDepth 100000 in
set_option maxHeartbeats 4000000 in
theorem c_X12_isDay (l : Launch) (g : GG) (h0 : Nat) (a1 : Nat) (a2 : Nat) (a3 : Nat) (a4 : Nat) (a6 : Nat) (a14 : Nat) (a15 : Nat) (a19 : Nat) (a20 : Nat) (a23 : Nat) (a24 : Nat) (a25 : Nat) (a26 : Nat) (a27 : Nat) (a28 : Nat) (p1 : Int32) : Ct l g yX12_isDay cX12_isDay 2 (some .boolean) { frames := 1, cells := 0, slots := 0, locals := 25 } [.ref h0, .int p1] [(h0, .inr (12, [.int 0, .ref a1, .ref a2, .ref a3, .ref a4, .int 0, .ref a6, .int 0, .int 0, .int 0, .int 0, .int 0, .int 0, .int (-1), .ref a14, .ref a15, .int 0, .int 0, .int 0, .ref a19, .ref a20, .int 0, .int 0, .ref a23, .ref a24, .ref a25, .ref a26, .ref a27, .ref a28])), (a1, .inl (g.2 0, 225, .inl (fun _ => 0)))] (S := Unit) (fun _ => some (.int 0)) (fun _ => True) (fun u => [(h0, .inr (12, [.int 0, .ref a1, .ref a2, .ref a3, .ref a4, .int 0, .ref a6, .int 0, .int 0, .int 0, .int 0, .int 0, .int 0, .int (-1), .ref a14, .ref a15, .int 0, .int 0, .int 0, .ref a19, .ref a20, .int 0, .int 0, .ref a23, .ref a24, .ref a25, .ref a26, .ref a27, .ref a28])), (a1, .inl (g.2 0, 225, .inl (fun _ => 0)))]) := by
  refine Ct.of (by decide) (Nat.le_of_ble_eq_true rfl) ?_
  intro p e s m below meth c A ls FX hP hD hS hl
  obtain ⟨FC, hr, hlk, hKn, hA, hnm⟩ := id FX
  have FC : CallFix p m c cX12_isDay 2 s _ BIG RX12 := FC
  obtain ⟨hx, hb, hml, hown, hB⟩ := id FC
  have hl : lv_has ls 2 [(0, .ref h0), (1, .int p1)] := hl
  refine lv_iload_n hx hb dX12_isDay_0 rfl (lv_at hl 1 rfl) ?_
  refine lv_i2l (v := p1.toInt64) hx hb dX12_isDay_1 rfl ?_
  refine lv_lconst (v := 0) hx hb dX12_isDay_2 (by decide) ?_
  refine lv_aload_n hx hb dX12_isDay_3 rfl (lv_at hl 0 rfl) ?_
  refine g_get (C := RX12) (T := TX12) (N := 29) (ci := 12) (v := .ref a1) FC hKn hP i_X12 0 rfl rfl 1 (by decide) b_362 rfl dX12_isDay_4 ?_
  refine lv_iconst (v := 2) hx hb dX12_isDay_7 (by decide) ?_
  refine va_iald hx hb hKn.1 hP 1 0 rfl rfl (by unfold vp_in; decide) dX12_isDay_8 ?_
  refine tp_i (v := 0) rfl ?_
  refine lv_iconst (v := 1) hx hb dX12_isDay_9 (by decide) ?_
  refine lv_isub hx hb dX12_isDay_10 ?_
  refine tp_i (v := -1) (by decide) ?_
  refine lv_i2l (v := -1) hx hb dX12_isDay_11 (by decide) ?_
  refine call_S (As := [.long p1.toInt64, .long 0, .long (-1)]) (rest := []) (wr := [(h0, .inr (12, [.int 0, .ref a1, .ref a2, .ref a3, .ref a4, .int 0, .ref a6, .int 0, .int 0, .int 0, .int 0, .int 0, .int 0, .int (-1), .ref a14, .ref a15, .int 0, .int 0, .int 0, .ref a19, .ref a20, .int 0, .int 0, .ref a23, .ref a24, .ref a25, .ref a26, .ref a27, .ref a28])), (a1, .inl (g.2 0, 225, .inl (fun _ => 0)))]) FC hKn (c_X12_in l g p1.toInt64 0 (-1)) m_yX12_in b_360 hP hD hS hA [] [0, 1] rfl (by decide) rfl (by decide) (by decide) rfl hl.1 rfl (Nat.le_of_ble_eq_true rfl) dX12_isDay_12 ⟨(Nat.le_of_ble_eq_true rfl), (Nat.le_of_ble_eq_true rfl)⟩ ⟨(Nat.le_of_ble_eq_true rfl), (Nat.le_of_ble_eq_true rfl)⟩ (fun u1 H locs _ hP hD hS => ?_)
  have hP : va_P g.1 vwCl [(h0, .inr (12, [.int 0, .ref a1, .ref a2, .ref a3, .ref a4, .int 0, .ref a6, .int 0, .int 0, .int 0, .int 0, .int 0, .int 0, .int (-1), .ref a14, .ref a15, .int 0, .int 0, .int 0, .ref a19, .ref a20, .int 0, .int 0, .ref a23, .ref a24, .ref a25, .ref a26, .ref a27, .ref a28])), (a1, .inl (g.2 0, 225, .inl (fun _ => 0)))] H := hP
  have hD : va_D A [(h0, .inr (12, [.int 0, .ref a1, .ref a2, .ref a3, .ref a4, .int 0, .ref a6, .int 0, .int 0, .int 0, .int 0, .int 0, .int 0, .int (-1), .ref a14, .ref a15, .int 0, .int 0, .int 0, .ref a19, .ref a20, .int 0, .int 0, .ref a23, .ref a24, .ref a25, .ref a26, .ref a27, .ref a28])), (a1, .inl (g.2 0, 225, .inl (fun _ => 0)))] := hD
  refine W.eq (g2 := F0 m 15 ls [.int (inF p1.toInt64 0 (-1))]) rfl ?_
  refine tp_i (v := 0) (inF_no (by decide)) ?_
  exact rt_z FX rfl () rfl trivial (hP.sub [0, 1] rfl) (hD.sub [0, 1] (by decide) rfl) hS (Nat.le_of_ble_eq_true rfl) (Nat.le_of_ble_eq_true rfl) dX12_isDay_15
set_option maxRecDepth 100000 in
set_option maxHeartbeats 4000000 in
theorem c_X12_isPlan (l : Launch) (g : GG) (h0 : Nat) (a1 : Nat) (a2 : Nat) (a3 : Nat) (a4 : Nat) (a6 : Nat) (a14 : Nat) (a15 : Nat) (a19 : Nat) (a20 : Nat) (a23 : Nat) (a24 : Nat) (a25 : Nat) (a26 : Nat) (a27 : Nat) (a28 : Nat) (p1 : Int32) : Ct l g yX12_isPlan cX12_isPlan 2 (some .boolean) { frames := 1, cells := 0, slots := 0, locals := 25 } [.ref h0, .int p1] [(h0, .inr (12, [.int 0, .ref a1, .ref a2, .ref a3, .ref a4, .int 0, .ref a6, .int 0, .int 0, .int 0, .int 0, .int 0, .int 0, .int (-1), .ref a14, .ref a15, .int 0, .int 0, .int 0, .ref a19, .ref a20, .int 0, .int 0, .ref a23, .ref a24, .ref a25, .ref a26, .ref a27, .ref a28])), (a1, .inl (g.2 0, 225, .inl (fun _ => 0)))] (S := Unit) (fun _ => some (.int 0)) (fun _ => True) (fun u => [(h0, .inr (12, [.int 0, .ref a1, .ref a2, .ref a3, .ref a4, .int 0, .ref a6, .int 0, .int 0, .int 0, .int 0, .int 0, .int 0, .int (-1), .ref a14, .ref a15, .int 0, .int 0, .int 0, .ref a19, .ref a20, .int 0, .int 0, .ref a23, .ref a24, .ref a25, .ref a26, .ref a27, .ref a28])), (a1, .inl (g.2 0, 225, .inl (fun _ => 0)))]) := by
  refine Ct.of (by decide) (Nat.le_of_ble_eq_true rfl) ?_
  intro p e s m below meth c A ls FX hP hD hS hl
  obtain ⟨FC, hr, hlk, hKn, hA, hnm⟩ := id FX
  have FC : CallFix p m c cX12_isPlan 2 s _ BIG RX12 := FC
  obtain ⟨hx, hb, hml, hown, hB⟩ := id FC
  have hl : lv_has ls 2 [(0, .ref h0), (1, .int p1)] := hl
  refine lv_iload_n hx hb dX12_isPlan_0 rfl (lv_at hl 1 rfl) ?_
  refine lv_i2l (v := p1.toInt64) hx hb dX12_isPlan_1 rfl ?_
  refine lv_lconst (v := 0) hx hb dX12_isPlan_2 (by decide) ?_
  refine lv_aload_n hx hb dX12_isPlan_3 rfl (lv_at hl 0 rfl) ?_
  refine g_get (C := RX12) (T := TX12) (N := 29) (ci := 12) (v := .ref a1) FC hKn hP i_X12 0 rfl rfl 1 (by decide) b_362 rfl dX12_isPlan_4 ?_
  refine lv_bipush (v := 7) hx hb dX12_isPlan_7 (by decide) ?_
  refine va_iald hx hb hKn.1 hP 1 0 rfl rfl (by unfold vp_in; decide) dX12_isPlan_9 ?_
  refine tp_i (v := 0) rfl ?_
  refine lv_iconst (v := 1) hx hb dX12_isPlan_10 (by decide) ?_
  refine lv_isub hx hb dX12_isPlan_11 ?_
  refine tp_i (v := -1) (by decide) ?_
  refine lv_i2l (v := -1) hx hb dX12_isPlan_12 (by decide) ?_
  refine call_S (As := [.long p1.toInt64, .long 0, .long (-1)]) (rest := []) (wr := [(h0, .inr (12, [.int 0, .ref a1, .ref a2, .ref a3, .ref a4, .int 0, .ref a6, .int 0, .int 0, .int 0, .int 0, .int 0, .int 0, .int (-1), .ref a14, .ref a15, .int 0, .int 0, .int 0, .ref a19, .ref a20, .int 0, .int 0, .ref a23, .ref a24, .ref a25, .ref a26, .ref a27, .ref a28])), (a1, .inl (g.2 0, 225, .inl (fun _ => 0)))]) FC hKn (c_X12_in l g p1.toInt64 0 (-1)) m_yX12_in b_360 hP hD hS hA [] [0, 1] rfl (by decide) rfl (by decide) (by decide) rfl hl.1 rfl (Nat.le_of_ble_eq_true rfl) dX12_isPlan_13 ⟨(Nat.le_of_ble_eq_true rfl), (Nat.le_of_ble_eq_true rfl)⟩ ⟨(Nat.le_of_ble_eq_true rfl), (Nat.le_of_ble_eq_true rfl)⟩ (fun u1 H locs _ hP hD hS => ?_)
  have hP : va_P g.1 vwCl [(h0, .inr (12, [.int 0, .ref a1, .ref a2, .ref a3, .ref a4, .int 0, .ref a6, .int 0, .int 0, .int 0, .int 0, .int 0, .int 0, .int (-1), .ref a14, .ref a15, .int 0, .int 0, .int 0, .ref a19, .ref a20, .int 0, .int 0, .ref a23, .ref a24, .ref a25, .ref a26, .ref a27, .ref a28])), (a1, .inl (g.2 0, 225, .inl (fun _ => 0)))] H := hP
  have hD : va_D A [(h0, .inr (12, [.int 0, .ref a1, .ref a2, .ref a3, .ref a4, .int 0, .ref a6, .int 0, .int 0, .int 0, .int 0, .int 0, .int 0, .int (-1), .ref a14, .ref a15, .int 0, .int 0, .int 0, .ref a19, .ref a20, .int 0, .int 0, .ref a23, .ref a24, .ref a25, .ref a26, .ref a27, .ref a28])), (a1, .inl (g.2 0, 225, .inl (fun _ => 0)))] := hD
  refine W.eq (g2 := F0 m 16 ls [.int (inF p1.toInt64 0 (-1))]) rfl ?_
  refine tp_i (v := 0) (inF_no (by decide)) ?_
  exact rt_z FX rfl () rfl trivial (hP.sub [0, 1] rfl) (hD.sub [0, 1] (by decide) rfl) hS (Nat.le_of_ble_eq_true rfl) (Nat.le_of_ble_eq_true rfl) dX12_isPlan_16
set_option maxRecDepth 100000 in
set_option maxHeartbeats 4000000 in
theorem c_X12_isBelief (l : Launch) (g : GG) (h0 : Nat) (a1 : Nat) (a2 : Nat) (a3 : Nat) (a4 : Nat) (a6 : Nat) (a14 : Nat) (a15 : Nat) (a19 : Nat) (a20 : Nat) (a23 : Nat) (a24 : Nat) (a25 : Nat) (a26 : Nat) (a27 : Nat) (a28 : Nat) (p1 : Int32) : Ct l g yX12_isBelief cX12_isBelief 2 (some .boolean) { frames := 1, cells := 0, slots := 0, locals := 20 } [.ref h0, .int p1] [(h0, .inr (12, [.int 0, .ref a1, .ref a2, .ref a3, .ref a4, .int 0, .ref a6, .int 0, .int 0, .int 0, .int 0, .int 0, .int 0, .int (-1), .ref a14, .ref a15, .int 0, .int 0, .int 0, .ref a19, .ref a20, .int 0, .int 0, .ref a23, .ref a24, .ref a25, .ref a26, .ref a27, .ref a28])), (a1, .inl (g.2 0, 225, .inl (fun _ => 0)))] (S := Unit) (fun _ => some (.int 0)) (fun _ => True) (fun u => [(h0, .inr (12, [.int 0, .ref a1, .ref a2, .ref a3, .ref a4, .int 0, .ref a6, .int 0, .int 0, .int 0, .int 0, .int 0, .int 0, .int (-1), .ref a14, .ref a15, .int 0, .int 0, .int 0, .ref a19, .ref a20, .int 0, .int 0, .ref a23, .ref a24, .ref a25, .ref a26, .ref a27, .ref a28])), (a1, .inl (g.2 0, 225, .inl (fun _ => 0)))]) := by
  refine Ct.of (by decide) (Nat.le_of_ble_eq_true rfl) ?_
  intro p e s m below meth c A ls FX hP hD hS hl
  obtain ⟨FC, hr, hlk, hKn, hA, hnm⟩ := id FX
  have FC : CallFix p m c cX12_isBelief 2 s _ BIG RX12 := FC
  obtain ⟨hx, hb, hml, hown, hB⟩ := id FC
  have hl : lv_has ls 2 [(0, .ref h0), (1, .int p1)] := hl
  refine lv_aload_n hx hb dX12_isBelief_0 rfl (lv_at hl 0 rfl) ?_
  refine call_V (As := []) (rest := []) (wr := []) FC hKn (c_X12_isDesk l g h0 a1 a2 a3 a4 a6 a14 a15 a19 a20 a23 a24 a25 a26 a27 a28) m_yX12_isDesk b_363 (ci := 12) rfl rfl rfl hP hD hS hA [0, 1] [] rfl (by decide) rfl (by decide) (by decide) rfl hl.1 rfl (Nat.le_of_ble_eq_true rfl) dX12_isBelief_1 ⟨(Nat.le_of_ble_eq_true rfl), (Nat.le_of_ble_eq_true rfl)⟩ ⟨(Nat.le_of_ble_eq_true rfl), (Nat.le_of_ble_eq_true rfl)⟩ (fun u1 H locs _ hP hD hS => ?_)
  have hP : va_P g.1 vwCl [(h0, .inr (12, [.int 0, .ref a1, .ref a2, .ref a3, .ref a4, .int 0, .ref a6, .int 0, .int 0, .int 0, .int 0, .int 0, .int 0, .int (-1), .ref a14, .ref a15, .int 0, .int 0, .int 0, .ref a19, .ref a20, .int 0, .int 0, .ref a23, .ref a24, .ref a25, .ref a26, .ref a27, .ref a28])), (a1, .inl (g.2 0, 225, .inl (fun _ => 0)))] H := hP
  have hD : va_D A [(h0, .inr (12, [.int 0, .ref a1, .ref a2, .ref a3, .ref a4, .int 0, .ref a6, .int 0, .int 0, .int 0, .int 0, .int 0, .int 0, .int (-1), .ref a14, .ref a15, .int 0, .int 0, .int 0, .ref a19, .ref a20, .int 0, .int 0, .ref a23, .ref a24, .ref a25, .ref a26, .ref a27, .ref a28])), (a1, .inl (g.2 0, 225, .inl (fun _ => 0)))] := hD
  refine W.eq (g2 := F0 m 4 ls [.int 0]) rfl ?_
  refine lv_if_eq (tgt := 25) hx hb dX12_isBelief_4 (by decide) (fun _ => ?_) (fun h => absurd h (by decide))
  refine lv_iconst (v := 0) hx hb dX12_isBelief_25 (by decide) ?_
  exact rt_z FX rfl () rfl trivial (hP.sub [0, 1] rfl) (hD.sub [0, 1] (by decide) rfl) hS (Nat.le_of_ble_eq_true rfl) (Nat.le_of_ble_eq_true rfl) dX12_isBelief_26
set_option maxRecDepth 100000 in
set_option maxHeartbeats 4000000 in
theorem c_X12_asksWeek (l : Launch) (g : GG) (h0 : Nat) (a1 : Nat) (a2 : Nat) (a3 : Nat) (a4 : Nat) (a6 : Nat) (a14 : Nat) (a15 : Nat) (a19 : Nat) (a20 : Nat) (a23 : Nat) (a24 : Nat) (a25 : Nat) (a26 : Nat) (a27 : Nat) (a28 : Nat) (p1 : Int32) (p2 : Int32) : Ct l g yX12_asksWeek cX12_asksWeek 4 (some .int) { frames := 2, cells := 0, slots := 0, locals := 45 } [.ref h0, .int p1, .int p2] [(h0, .inr (12, [.int 0, .ref a1, .ref a2, .ref a3, .ref a4, .int 0, .ref a6, .int 0, .int 0, .int 0, .int 0, .int 0, .int 0, .int (-1), .ref a14, .ref a15, .int 0, .int 0, .int 0, .ref a19, .ref a20, .int 0, .int 0, .ref a23, .ref a24, .ref a25, .ref a26, .ref a27, .ref a28])), (a1, .inl (g.2 0, 225, .inl (fun _ => 0)))] (S := Unit) (fun _ => some (.int (-2))) (fun _ => True) (fun u => [(h0, .inr (12, [.int 0, .ref a1, .ref a2, .ref a3, .ref a4, .int 0, .ref a6, .int 0, .int 0, .int 0, .int 0, .int 0, .int 0, .int (-1), .ref a14, .ref a15, .int 0, .int 0, .int 0, .ref a19, .ref a20, .int 0, .int 0, .ref a23, .ref a24, .ref a25, .ref a26, .ref a27, .ref a28])), (a1, .inl (g.2 0, 225, .inl (fun _ => 0)))]) := by
  refine Ct.of (by decide) (Nat.le_of_ble_eq_true rfl) ?_
  intro p e s m below meth c A ls FX hP hD hS hl
  obtain ⟨FC, hr, hlk, hKn, hA, hnm⟩ := id FX
  have FC : CallFix p m c cX12_asksWeek 4 s _ BIG RX12 := FC
  obtain ⟨hx, hb, hml, hown, hB⟩ := id FC
  have hl : lv_has ls 4 [(0, .ref h0), (1, .int p1), (2, .int p2)] := hl
  refine lv_iload_n hx hb dX12_asksWeek_0 rfl (lv_at hl 1 rfl) ?_
  refine call_S (As := [.int p1]) (rest := []) (wr := [(h0, .inr (12, [.int 0, .ref a1, .ref a2, .ref a3, .ref a4, .int 0, .ref a6, .int 0, .int 0, .int 0, .int 0, .int 0, .int 0, .int (-1), .ref a14, .ref a15, .int 0, .int 0, .int 0, .ref a19, .ref a20, .int 0, .int 0, .ref a23, .ref a24, .ref a25, .ref a26, .ref a27, .ref a28])), (a1, .inl (g.2 0, 225, .inl (fun _ => 0)))]) FC hKn (c_X12_isSlot l g p1) m_yX12_isSlot b_364 hP hD hS hA [] [0, 1] rfl (by decide) rfl (by decide) (by decide) rfl hl.1 rfl (Nat.le_of_ble_eq_true rfl) dX12_asksWeek_1 ⟨(Nat.le_of_ble_eq_true rfl), (Nat.le_of_ble_eq_true rfl)⟩ ⟨(Nat.le_of_ble_eq_true rfl), (Nat.le_of_ble_eq_true rfl)⟩ (fun u1 H locs _ hP hD hS => ?_)
  have hP : va_P g.1 vwCl [(h0, .inr (12, [.int 0, .ref a1, .ref a2, .ref a3, .ref a4, .int 0, .ref a6, .int 0, .int 0, .int 0, .int 0, .int 0, .int 0, .int (-1), .ref a14, .ref a15, .int 0, .int 0, .int 0, .ref a19, .ref a20, .int 0, .int 0, .ref a23, .ref a24, .ref a25, .ref a26, .ref a27, .ref a28])), (a1, .inl (g.2 0, 225, .inl (fun _ => 0)))] H := hP
  have hD : va_D A [(h0, .inr (12, [.int 0, .ref a1, .ref a2, .ref a3, .ref a4, .int 0, .ref a6, .int 0, .int 0, .int 0, .int 0, .int 0, .int 0, .int (-1), .ref a14, .ref a15, .int 0, .int 0, .int 0, .ref a19, .ref a20, .int 0, .int 0, .ref a23, .ref a24, .ref a25, .ref a26, .ref a27, .ref a28])), (a1, .inl (g.2 0, 225, .inl (fun _ => 0)))] := hD
  refine W.eq (g2 := F0 m 4 ls [.int (sp_slot p1)]) rfl ?_
  by_cases c2 : 0 ≤ p1.toInt ∧ p1.toInt ≤ 3
  · refine tp_i (v := 1) (if_pos c2) ?_
    refine lv_if_eq (tgt := 18) hx hb dX12_asksWeek_4 (by decide) (fun h => absurd h (by decide)) (fun _ => ?_)
    refine lv_aload_n hx hb dX12_asksWeek_7 rfl (lv_at hl 0 rfl) ?_
    refine call_V (As := []) (rest := []) (wr := []) FC hKn (c_X12_isDesk l g h0 a1 a2 a3 a4 a6 a14 a15 a19 a20 a23 a24 a25 a26 a27 a28) m_yX12_isDesk b_363 (ci := 12) rfl rfl rfl hP hD hS hA [0, 1] [] rfl (by decide) rfl (by decide) (by decide) rfl hl.1 rfl (Nat.le_of_ble_eq_true rfl) dX12_asksWeek_8 ⟨(Nat.le_of_ble_eq_true rfl), (Nat.le_of_ble_eq_true rfl)⟩ ⟨(Nat.le_of_ble_eq_true rfl), (Nat.le_of_ble_eq_true rfl)⟩ (fun u3 H locs _ hP hD hS => ?_)
    have hP : va_P g.1 vwCl [(h0, .inr (12, [.int 0, .ref a1, .ref a2, .ref a3, .ref a4, .int 0, .ref a6, .int 0, .int 0, .int 0, .int 0, .int 0, .int 0, .int (-1), .ref a14, .ref a15, .int 0, .int 0, .int 0, .ref a19, .ref a20, .int 0, .int 0, .ref a23, .ref a24, .ref a25, .ref a26, .ref a27, .ref a28])), (a1, .inl (g.2 0, 225, .inl (fun _ => 0)))] H := hP
    have hD : va_D A [(h0, .inr (12, [.int 0, .ref a1, .ref a2, .ref a3, .ref a4, .int 0, .ref a6, .int 0, .int 0, .int 0, .int 0, .int 0, .int 0, .int (-1), .ref a14, .ref a15, .int 0, .int 0, .int 0, .ref a19, .ref a20, .int 0, .int 0, .ref a23, .ref a24, .ref a25, .ref a26, .ref a27, .ref a28])), (a1, .inl (g.2 0, 225, .inl (fun _ => 0)))] := hD
    refine W.eq (g2 := F0 m 11 ls [.int 0]) rfl ?_
    refine lv_if_eq (tgt := 18) hx hb dX12_asksWeek_11 (by decide) (fun _ => ?_) (fun h => absurd h (by decide))
    refine lv_bipush (v := -2) hx hb dX12_asksWeek_18 (by decide) ?_
    exact rt_i FX () rfl trivial (hP.sub [0, 1] rfl) (hD.sub [0, 1] (by decide) rfl) hS (Nat.le_of_ble_eq_true rfl) (Nat.le_of_ble_eq_true rfl) dX12_asksWeek_20
  · refine tp_i (v := 0) (if_neg c2) ?_
    refine lv_if_eq (tgt := 18) hx hb dX12_asksWeek_4 (by decide) (fun _ => ?_) (fun h => absurd h (by decide))
    refine lv_bipush (v := -2) hx hb dX12_asksWeek_18 (by decide) ?_
    exact rt_i FX () rfl trivial (hP.sub [0, 1] rfl) (hD.sub [0, 1] (by decide) rfl) hS (Nat.le_of_ble_eq_true rfl) (Nat.le_of_ble_eq_true rfl) dX12_asksWeek_20
set_option maxRecDepth 100000 in
set_option maxHeartbeats 4000000 in
theorem c_X12_asksOrder (l : Launch) (g : GG) (h0 : Nat) (a1 : Nat) (a2 : Nat) (a3 : Nat) (a4 : Nat) (a6 : Nat) (a14 : Nat) (a15 : Nat) (a19 : Nat) (a20 : Nat) (a23 : Nat) (a24 : Nat) (a25 : Nat) (a26 : Nat) (a27 : Nat) (a28 : Nat) (p1 : Int32) (p2 : Int32) : Ct l g yX12_asksOrder cX12_asksOrder 4 (some .int) { frames := 3, cells := 0, slots := 0, locals := 68 } [.ref h0, .int p1, .int p2] [(h0, .inr (12, [.int 0, .ref a1, .ref a2, .ref a3, .ref a4, .int 0, .ref a6, .int 0, .int 0, .int 0, .int 0, .int 0, .int 0, .int (-1), .ref a14, .ref a15, .int 0, .int 0, .int 0, .ref a19, .ref a20, .int 0, .int 0, .ref a23, .ref a24, .ref a25, .ref a26, .ref a27, .ref a28])), (a1, .inl (g.2 0, 225, .inl (fun _ => 0)))] (S := Unit) (fun _ => some (.int (-2))) (fun _ => True) (fun u => [(h0, .inr (12, [.int 0, .ref a1, .ref a2, .ref a3, .ref a4, .int 0, .ref a6, .int 0, .int 0, .int 0, .int 0, .int 0, .int 0, .int (-1), .ref a14, .ref a15, .int 0, .int 0, .int 0, .ref a19, .ref a20, .int 0, .int 0, .ref a23, .ref a24, .ref a25, .ref a26, .ref a27, .ref a28])), (a1, .inl (g.2 0, 225, .inl (fun _ => 0)))]) := by
  refine Ct.of (by decide) (Nat.le_of_ble_eq_true rfl) ?_
  intro p e s m below meth c A ls FX hP hD hS hl
  obtain ⟨FC, hr, hlk, hKn, hA, hnm⟩ := id FX
  have FC : CallFix p m c cX12_asksOrder 4 s _ BIG RX12 := FC
  obtain ⟨hx, hb, hml, hown, hB⟩ := id FC
  have hl : lv_has ls 4 [(0, .ref h0), (1, .int p1), (2, .int p2)] := hl
  refine lv_aload_n hx hb dX12_asksOrder_0 rfl (lv_at hl 0 rfl) ?_
  refine lv_iload_n hx hb dX12_asksOrder_1 rfl (lv_at hl 1 rfl) ?_
  refine lv_aload_n hx hb dX12_asksOrder_2 rfl (lv_at hl 0 rfl) ?_
  refine lv_iload_n hx hb dX12_asksOrder_3 rfl (lv_at hl 2 rfl) ?_
  refine call_V (As := [.int p2]) (rest := [.int p1, .ref h0]) (wr := []) FC hKn (c_X12_isHearer l g h0 a1 a2 a3 a4 a6 a14 a15 a19 a20 a23 a24 a25 a26 a27 a28 p2) m_yX12_isHearer b_365 (ci := 12) rfl rfl rfl hP hD hS hA [0, 1] [] rfl (by decide) rfl (by decide) (by decide) rfl hl.1 rfl (Nat.le_of_ble_eq_true rfl) dX12_asksOrder_4 ⟨(Nat.le_of_ble_eq_true rfl), (Nat.le_of_ble_eq_true rfl)⟩ ⟨(Nat.le_of_ble_eq_true rfl), (Nat.le_of_ble_eq_true rfl)⟩ (fun u1 H locs _ hP hD hS => ?_)
  have hP : va_P g.1 vwCl [(h0, .inr (12, [.int 0, .ref a1, .ref a2, .ref a3, .ref a4, .int 0, .ref a6, .int 0, .int 0, .int 0, .int 0, .int 0, .int 0, .int (-1), .ref a14, .ref a15, .int 0, .int 0, .int 0, .ref a19, .ref a20, .int 0, .int 0, .ref a23, .ref a24, .ref a25, .ref a26, .ref a27, .ref a28])), (a1, .inl (g.2 0, 225, .inl (fun _ => 0)))] H := hP
  have hD : va_D A [(h0, .inr (12, [.int 0, .ref a1, .ref a2, .ref a3, .ref a4, .int 0, .ref a6, .int 0, .int 0, .int 0, .int 0, .int 0, .int 0, .int (-1), .ref a14, .ref a15, .int 0, .int 0, .int 0, .ref a19, .ref a20, .int 0, .int 0, .ref a23, .ref a24, .ref a25, .ref a26, .ref a27, .ref a28])), (a1, .inl (g.2 0, 225, .inl (fun _ => 0)))] := hD
  refine W.eq (g2 := F0 m 7 ls [.int 0, .int p1, .ref h0]) rfl ?_
  refine call_V (As := [.int p1, .int 0]) (rest := []) (wr := []) FC hKn (c_X12_asksWeek l g h0 a1 a2 a3 a4 a6 a14 a15 a19 a20 a23 a24 a25 a26 a27 a28 p1 0) m_yX12_asksWeek b_366 (ci := 12) rfl rfl rfl hP hD hS hA [0, 1] [] rfl (by decide) rfl (by decide) (by decide) rfl hl.1 rfl (Nat.le_of_ble_eq_true rfl) dX12_asksOrder_7 ⟨(Nat.le_of_ble_eq_true rfl), (Nat.le_of_ble_eq_true rfl)⟩ ⟨(Nat.le_of_ble_eq_true rfl), (Nat.le_of_ble_eq_true rfl)⟩ (fun u2 H locs _ hP hD hS => ?_)
  have hP : va_P g.1 vwCl [(h0, .inr (12, [.int 0, .ref a1, .ref a2, .ref a3, .ref a4, .int 0, .ref a6, .int 0, .int 0, .int 0, .int 0, .int 0, .int 0, .int (-1), .ref a14, .ref a15, .int 0, .int 0, .int 0, .ref a19, .ref a20, .int 0, .int 0, .ref a23, .ref a24, .ref a25, .ref a26, .ref a27, .ref a28])), (a1, .inl (g.2 0, 225, .inl (fun _ => 0)))] H := hP
  have hD : va_D A [(h0, .inr (12, [.int 0, .ref a1, .ref a2, .ref a3, .ref a4, .int 0, .ref a6, .int 0, .int 0, .int 0, .int 0, .int 0, .int 0, .int (-1), .ref a14, .ref a15, .int 0, .int 0, .int 0, .ref a19, .ref a20, .int 0, .int 0, .ref a23, .ref a24, .ref a25, .ref a26, .ref a27, .ref a28])), (a1, .inl (g.2 0, 225, .inl (fun _ => 0)))] := hD
  refine W.eq (g2 := F0 m 10 ls [.int (-2)]) rfl ?_
  refine lv_istore_n (lv' := [(3, .int (-2)), (0, .ref h0), (1, .int p1), (2, .int p2)]) hx hb dX12_asksOrder_10 rfl hl (by decide) rfl (fun ls hl => ?_)
  refine lv_iload_n hx hb dX12_asksOrder_11 rfl (lv_at hl 0 rfl) ?_
  refine lv_if_ge (tgt := 19) hx hb dX12_asksOrder_12 (by decide) (fun h => absurd h (by decide)) (fun _ => ?_)
  refine lv_iload_n hx hb dX12_asksOrder_15 rfl (lv_at hl 0 rfl) ?_
  refine lv_goto (tgt := 36) hx hb dX12_asksOrder_16 (by decide) ?_
  exact rt_i FX () rfl trivial (hP.sub [0, 1] rfl) (hD.sub [0, 1] (by decide) rfl) hS (Nat.le_of_ble_eq_true rfl) (Nat.le_of_ble_eq_true rfl) dX12_asksOrder_36
set_option maxRecDepth 100000 in
set_option maxHeartbeats 4000000 in
theorem c_X12_areLetters (l : Launch) (g : GG) (h0 : Nat) (a1 : Nat) (a2 : Nat) (a3 : Nat) (a4 : Nat) (a6 : Nat) (a14 : Nat) (a15 : Nat) (a19 : Nat) (a20 : Nat) (a23 : Nat) (a24 : Nat) (a25 : Nat) (a26 : Nat) (a27 : Nat) (a28 : Nat) (p1 : Int32) : Ct l g yX12_areLetters cX12_areLetters 2 (some .boolean) { frames := 1, cells := 0, slots := 0, locals := 20 } [.ref h0, .int p1] [(h0, .inr (12, [.int 0, .ref a1, .ref a2, .ref a3, .ref a4, .int 0, .ref a6, .int 0, .int 0, .int 0, .int 0, .int 0, .int 0, .int (-1), .ref a14, .ref a15, .int 0, .int 0, .int 0, .ref a19, .ref a20, .int 0, .int 0, .ref a23, .ref a24, .ref a25, .ref a26, .ref a27, .ref a28])), (a1, .inl (g.2 0, 225, .inl (fun _ => 0)))] (S := Unit) (fun _ => some (.int 0)) (fun _ => True) (fun u => [(h0, .inr (12, [.int 0, .ref a1, .ref a2, .ref a3, .ref a4, .int 0, .ref a6, .int 0, .int 0, .int 0, .int 0, .int 0, .int 0, .int (-1), .ref a14, .ref a15, .int 0, .int 0, .int 0, .ref a19, .ref a20, .int 0, .int 0, .ref a23, .ref a24, .ref a25, .ref a26, .ref a27, .ref a28])), (a1, .inl (g.2 0, 225, .inl (fun _ => 0)))]) := by
  refine Ct.of (by decide) (Nat.le_of_ble_eq_true rfl) ?_
  intro p e s m below meth c A ls FX hP hD hS hl
  obtain ⟨FC, hr, hlk, hKn, hA, hnm⟩ := id FX
  have FC : CallFix p m c cX12_areLetters 2 s _ BIG RX12 := FC
  obtain ⟨hx, hb, hml, hown, hB⟩ := id FC
  have hl : lv_has ls 2 [(0, .ref h0), (1, .int p1)] := hl
  refine lv_aload_n hx hb dX12_areLetters_0 rfl (lv_at hl 0 rfl) ?_
  refine call_V (As := []) (rest := []) (wr := []) FC hKn (c_X12_isDesk l g h0 a1 a2 a3 a4 a6 a14 a15 a19 a20 a23 a24 a25 a26 a27 a28) m_yX12_isDesk b_363 (ci := 12) rfl rfl rfl hP hD hS hA [0, 1] [] rfl (by decide) rfl (by decide) (by decide) rfl hl.1 rfl (Nat.le_of_ble_eq_true rfl) dX12_areLetters_1 ⟨(Nat.le_of_ble_eq_true rfl), (Nat.le_of_ble_eq_true rfl)⟩ ⟨(Nat.le_of_ble_eq_true rfl), (Nat.le_of_ble_eq_true rfl)⟩ (fun u1 H locs _ hP hD hS => ?_)
  have hP : va_P g.1 vwCl [(h0, .inr (12, [.int 0, .ref a1, .ref a2, .ref a3, .ref a4, .int 0, .ref a6, .int 0, .int 0, .int 0, .int 0, .int 0, .int 0, .int (-1), .ref a14, .ref a15, .int 0, .int 0, .int 0, .ref a19, .ref a20, .int 0, .int 0, .ref a23, .ref a24, .ref a25, .ref a26, .ref a27, .ref a28])), (a1, .inl (g.2 0, 225, .inl (fun _ => 0)))] H := hP
  have hD : va_D A [(h0, .inr (12, [.int 0, .ref a1, .ref a2, .ref a3, .ref a4, .int 0, .ref a6, .int 0, .int 0, .int 0, .int 0, .int 0, .int 0, .int (-1), .ref a14, .ref a15, .int 0, .int 0, .int 0, .ref a19, .ref a20, .int 0, .int 0, .ref a23, .ref a24, .ref a25, .ref a26, .ref a27, .ref a28])), (a1, .inl (g.2 0, 225, .inl (fun _ => 0)))] := hD
  refine W.eq (g2 := F0 m 4 ls [.int 0]) rfl ?_
  refine lv_if_eq (tgt := 23) hx hb dX12_areLetters_4 (by decide) (fun _ => ?_) (fun h => absurd h (by decide))
  refine lv_iconst (v := 0) hx hb dX12_areLetters_23 (by decide) ?_
  exact rt_z FX rfl () rfl trivial (hP.sub [0, 1] rfl) (hD.sub [0, 1] (by decide) rfl) hS (Nat.le_of_ble_eq_true rfl) (Nat.le_of_ble_eq_true rfl) dX12_areLetters_24
set_option maxRecDepth 100000 in
set_option maxHeartbeats 4000000 in
theorem c_X12_grade (l : Launch) (g : GG) (h0 : Nat) (a1 : Nat) (a2 : Nat) (a3 : Nat) (a4 : Nat) (a6 : Nat) (a14 : Nat) (a15 : Nat) (a19 : Nat) (a20 : Nat) (a23 : Nat) (a24 : Nat) (a25 : Nat) (a26 : Nat) (a27 : Nat) (a28 : Nat) (p1 : Int32) : Ct l g yX12_grade cX12_grade 2 (some .int) { frames := 2, cells := 0, slots := 0, locals := 46 } [.ref h0, .int p1] [(h0, .inr (12, [.int 0, .ref a1, .ref a2, .ref a3, .ref a4, .int 0, .ref a6, .int 0, .int 0, .int 0, .int 0, .int 0, .int 0, .int (-1), .ref a14, .ref a15, .int 0, .int 0, .int 0, .ref a19, .ref a20, .int 0, .int 0, .ref a23, .ref a24, .ref a25, .ref a26, .ref a27, .ref a28])), (a1, .inl (g.2 0, 225, .inl (fun _ => 0)))] (S := Unit) (fun _ => some (.int (-2))) (fun _ => True) (fun u => [(h0, .inr (12, [.int 0, .ref a1, .ref a2, .ref a3, .ref a4, .int 0, .ref a6, .int 0, .int 0, .int 0, .int 0, .int 0, .int 0, .int (-1), .ref a14, .ref a15, .int 0, .int 0, .int 0, .ref a19, .ref a20, .int 0, .int 0, .ref a23, .ref a24, .ref a25, .ref a26, .ref a27, .ref a28])), (a1, .inl (g.2 0, 225, .inl (fun _ => 0)))]) := by
  refine Ct.of (by decide) (Nat.le_of_ble_eq_true rfl) ?_
  intro p e s m below meth c A ls FX hP hD hS hl
  obtain ⟨FC, hr, hlk, hKn, hA, hnm⟩ := id FX
  have FC : CallFix p m c cX12_grade 2 s _ BIG RX12 := FC
  obtain ⟨hx, hb, hml, hown, hB⟩ := id FC
  have hl : lv_has ls 2 [(0, .ref h0), (1, .int p1)] := hl
  refine lv_aload_n hx hb dX12_grade_0 rfl (lv_at hl 0 rfl) ?_
  refine lv_iload_n hx hb dX12_grade_1 rfl (lv_at hl 1 rfl) ?_
  refine call_V (As := [.int p1]) (rest := []) (wr := []) FC hKn (c_X12_isState l g h0 a1 a2 a3 a4 a6 a14 a15 a19 a20 a23 a24 a25 a26 a27 a28 p1) m_yX12_isState b_367 (ci := 12) rfl rfl rfl hP hD hS hA [0, 1] [] rfl (by decide) rfl (by decide) (by decide) rfl hl.1 rfl (Nat.le_of_ble_eq_true rfl) dX12_grade_2 ⟨(Nat.le_of_ble_eq_true rfl), (Nat.le_of_ble_eq_true rfl)⟩ ⟨(Nat.le_of_ble_eq_true rfl), (Nat.le_of_ble_eq_true rfl)⟩ (fun u1 H locs _ hP hD hS => ?_)
  have hP : va_P g.1 vwCl [(h0, .inr (12, [.int 0, .ref a1, .ref a2, .ref a3, .ref a4, .int 0, .ref a6, .int 0, .int 0, .int 0, .int 0, .int 0, .int 0, .int (-1), .ref a14, .ref a15, .int 0, .int 0, .int 0, .ref a19, .ref a20, .int 0, .int 0, .ref a23, .ref a24, .ref a25, .ref a26, .ref a27, .ref a28])), (a1, .inl (g.2 0, 225, .inl (fun _ => 0)))] H := hP
  have hD : va_D A [(h0, .inr (12, [.int 0, .ref a1, .ref a2, .ref a3, .ref a4, .int 0, .ref a6, .int 0, .int 0, .int 0, .int 0, .int 0, .int 0, .int (-1), .ref a14, .ref a15, .int 0, .int 0, .int 0, .ref a19, .ref a20, .int 0, .int 0, .ref a23, .ref a24, .ref a25, .ref a26, .ref a27, .ref a28])), (a1, .inl (g.2 0, 225, .inl (fun _ => 0)))] := hD
  refine W.eq (g2 := F0 m 5 ls [.int 0]) rfl ?_
  refine lv_if_eq (tgt := 20) hx hb dX12_grade_5 (by decide) (fun _ => ?_) (fun h => absurd h (by decide))
  refine lv_bipush (v := -2) hx hb dX12_grade_20 (by decide) ?_
  exact rt_i FX () rfl trivial (hP.sub [0, 1] rfl) (hD.sub [0, 1] (by decide) rfl) hS (Nat.le_of_ble_eq_true rfl) (Nat.le_of_ble_eq_true rfl) dX12_grade_22
set_option maxRecDepth 100000 in
set_option maxHeartbeats 4000000 in
theorem c_X12_thinks (l : Launch) (g : GG) (h0 : Nat) (a1 : Nat) (a2 : Nat) (a3 : Nat) (a4 : Nat) (a6 : Nat) (a14 : Nat) (a15 : Nat) (a19 : Nat) (a20 : Nat) (a23 : Nat) (a24 : Nat) (a25 : Nat) (a26 : Nat) (a27 : Nat) (a28 : Nat) (p1 : Int32) (p2 : Int32) : Ct l g yX12_thinks cX12_thinks 3 (some .int) { frames := 2, cells := 0, slots := 0, locals := 46 } [.ref h0, .int p1, .int p2] [(h0, .inr (12, [.int 0, .ref a1, .ref a2, .ref a3, .ref a4, .int 0, .ref a6, .int 0, .int 0, .int 0, .int 0, .int 0, .int 0, .int (-1), .ref a14, .ref a15, .int 0, .int 0, .int 0, .ref a19, .ref a20, .int 0, .int 0, .ref a23, .ref a24, .ref a25, .ref a26, .ref a27, .ref a28])), (a1, .inl (g.2 0, 225, .inl (fun _ => 0)))] (S := Unit) (fun _ => some (.int (-2))) (fun _ => True) (fun u => [(h0, .inr (12, [.int 0, .ref a1, .ref a2, .ref a3, .ref a4, .int 0, .ref a6, .int 0, .int 0, .int 0, .int 0, .int 0, .int 0, .int (-1), .ref a14, .ref a15, .int 0, .int 0, .int 0, .ref a19, .ref a20, .int 0, .int 0, .ref a23, .ref a24, .ref a25, .ref a26, .ref a27, .ref a28])), (a1, .inl (g.2 0, 225, .inl (fun _ => 0)))]) := by
  refine Ct.of (by decide) (Nat.le_of_ble_eq_true rfl) ?_
  intro p e s m below meth c A ls FX hP hD hS hl
  obtain ⟨FC, hr, hlk, hKn, hA, hnm⟩ := id FX
  have FC : CallFix p m c cX12_thinks 3 s _ BIG RX12 := FC
  obtain ⟨hx, hb, hml, hown, hB⟩ := id FC
  have hl : lv_has ls 3 [(0, .ref h0), (1, .int p1), (2, .int p2)] := hl
  refine lv_aload_n hx hb dX12_thinks_0 rfl (lv_at hl 0 rfl) ?_
  refine lv_iload_n hx hb dX12_thinks_1 rfl (lv_at hl 1 rfl) ?_
  refine call_V (As := [.int p1]) (rest := []) (wr := []) FC hKn (c_X12_isHearer l g h0 a1 a2 a3 a4 a6 a14 a15 a19 a20 a23 a24 a25 a26 a27 a28 p1) m_yX12_isHearer b_365 (ci := 12) rfl rfl rfl hP hD hS hA [0, 1] [] rfl (by decide) rfl (by decide) (by decide) rfl hl.1 rfl (Nat.le_of_ble_eq_true rfl) dX12_thinks_2 ⟨(Nat.le_of_ble_eq_true rfl), (Nat.le_of_ble_eq_true rfl)⟩ ⟨(Nat.le_of_ble_eq_true rfl), (Nat.le_of_ble_eq_true rfl)⟩ (fun u1 H locs _ hP hD hS => ?_)
  have hP : va_P g.1 vwCl [(h0, .inr (12, [.int 0, .ref a1, .ref a2, .ref a3, .ref a4, .int 0, .ref a6, .int 0, .int 0, .int 0, .int 0, .int 0, .int 0, .int (-1), .ref a14, .ref a15, .int 0, .int 0, .int 0, .ref a19, .ref a20, .int 0, .int 0, .ref a23, .ref a24, .ref a25, .ref a26, .ref a27, .ref a28])), (a1, .inl (g.2 0, 225, .inl (fun _ => 0)))] H := hP
  have hD : va_D A [(h0, .inr (12, [.int 0, .ref a1, .ref a2, .ref a3, .ref a4, .int 0, .ref a6, .int 0, .int 0, .int 0, .int 0, .int 0, .int 0, .int (-1), .ref a14, .ref a15, .int 0, .int 0, .int 0, .ref a19, .ref a20, .int 0, .int 0, .ref a23, .ref a24, .ref a25, .ref a26, .ref a27, .ref a28])), (a1, .inl (g.2 0, 225, .inl (fun _ => 0)))] := hD
  refine W.eq (g2 := F0 m 5 ls [.int 0]) rfl ?_
  refine lv_if_eq (tgt := 21) hx hb dX12_thinks_5 (by decide) (fun _ => ?_) (fun h => absurd h (by decide))
  refine lv_bipush (v := -2) hx hb dX12_thinks_21 (by decide) ?_
  refine lv_goto (tgt := 45) hx hb dX12_thinks_23 (by decide) ?_
  exact rt_i FX () rfl trivial (hP.sub [0, 1] rfl) (hD.sub [0, 1] (by decide) rfl) hS (Nat.le_of_ble_eq_true rfl) (Nat.le_of_ble_eq_true rfl) dX12_thinks_45
set_option maxRecDepth 100000 in
set_option maxHeartbeats 4000000 in
theorem c_X12_word (l : Launch) (g : GG) (h0 : Nat) (a1 : Nat) (a2 : Nat) (a3 : Nat) (a4 : Nat) (a6 : Nat) (a14 : Nat) (a15 : Nat) (a19 : Nat) (a20 : Nat) (a23 : Nat) (a24 : Nat) (a25 : Nat) (a26 : Nat) (a27 : Nat) (a28 : Nat) (p1 : Int32) (p2 : Int32) : Ct l g yX12_word cX12_word 3 (some .int) { frames := 2, cells := 0, slots := 0, locals := 47 } [.ref h0, .int p1, .int p2] [(h0, .inr (12, [.int 0, .ref a1, .ref a2, .ref a3, .ref a4, .int 0, .ref a6, .int 0, .int 0, .int 0, .int 0, .int 0, .int 0, .int (-1), .ref a14, .ref a15, .int 0, .int 0, .int 0, .ref a19, .ref a20, .int 0, .int 0, .ref a23, .ref a24, .ref a25, .ref a26, .ref a27, .ref a28])), (a1, .inl (g.2 0, 225, .inl (fun _ => 0)))] (S := Unit) (fun _ => some (.int (-2))) (fun _ => True) (fun u => [(h0, .inr (12, [.int 0, .ref a1, .ref a2, .ref a3, .ref a4, .int 0, .ref a6, .int 0, .int 0, .int 0, .int 0, .int 0, .int 0, .int (-1), .ref a14, .ref a15, .int 0, .int 0, .int 0, .ref a19, .ref a20, .int 0, .int 0, .ref a23, .ref a24, .ref a25, .ref a26, .ref a27, .ref a28])), (a1, .inl (g.2 0, 225, .inl (fun _ => 0)))]) := by
  refine Ct.of (by decide) (Nat.le_of_ble_eq_true rfl) ?_
  intro p e s m below meth c A ls FX hP hD hS hl
  obtain ⟨FC, hr, hlk, hKn, hA, hnm⟩ := id FX
  have FC : CallFix p m c cX12_word 3 s _ BIG RX12 := FC
  obtain ⟨hx, hb, hml, hown, hB⟩ := id FC
  have hl : lv_has ls 3 [(0, .ref h0), (1, .int p1), (2, .int p2)] := hl
  refine lv_aload_n hx hb dX12_word_0 rfl (lv_at hl 0 rfl) ?_
  refine lv_iload_n hx hb dX12_word_1 rfl (lv_at hl 1 rfl) ?_
  refine lv_i2l (v := p1.toInt64) hx hb dX12_word_2 rfl ?_
  refine call_V (As := [.long p1.toInt64]) (rest := []) (wr := []) FC hKn (c_X12_isWord l g h0 a1 a2 a3 a4 a6 a14 a15 a19 a20 a23 a24 a25 a26 a27 a28 p1.toInt64) m_yX12_isWord b_368 (ci := 12) rfl rfl rfl hP hD hS hA [0, 1] [] rfl (by decide) rfl (by decide) (by decide) rfl hl.1 rfl (Nat.le_of_ble_eq_true rfl) dX12_word_3 ⟨(Nat.le_of_ble_eq_true rfl), (Nat.le_of_ble_eq_true rfl)⟩ ⟨(Nat.le_of_ble_eq_true rfl), (Nat.le_of_ble_eq_true rfl)⟩ (fun u1 H locs _ hP hD hS => ?_)
  have hP : va_P g.1 vwCl [(h0, .inr (12, [.int 0, .ref a1, .ref a2, .ref a3, .ref a4, .int 0, .ref a6, .int 0, .int 0, .int 0, .int 0, .int 0, .int 0, .int (-1), .ref a14, .ref a15, .int 0, .int 0, .int 0, .ref a19, .ref a20, .int 0, .int 0, .ref a23, .ref a24, .ref a25, .ref a26, .ref a27, .ref a28])), (a1, .inl (g.2 0, 225, .inl (fun _ => 0)))] H := hP
  have hD : va_D A [(h0, .inr (12, [.int 0, .ref a1, .ref a2, .ref a3, .ref a4, .int 0, .ref a6, .int 0, .int 0, .int 0, .int 0, .int 0, .int 0, .int (-1), .ref a14, .ref a15, .int 0, .int 0, .int 0, .ref a19, .ref a20, .int 0, .int 0, .ref a23, .ref a24, .ref a25, .ref a26, .ref a27, .ref a28])), (a1, .inl (g.2 0, 225, .inl (fun _ => 0)))] := hD
  refine W.eq (g2 := F0 m 6 ls [.int 0]) rfl ?_
  refine lv_if_eq (tgt := 21) hx hb dX12_word_6 (by decide) (fun _ => ?_) (fun h => absurd h (by decide))
  refine lv_bipush (v := -2) hx hb dX12_word_21 (by decide) ?_
  exact rt_i FX () rfl trivial (hP.sub [0, 1] rfl) (hD.sub [0, 1] (by decide) rfl) hS (Nat.le_of_ble_eq_true rfl) (Nat.le_of_ble_eq_true rfl) dX12_word_23
set_option maxRecDepth 100000 in
set_option maxHeartbeats 4000000 in
theorem c_X12_plan (l : Launch) (g : GG) (h0 : Nat) (a1 : Nat) (a2 : Nat) (a3 : Nat) (a4 : Nat) (a6 : Nat) (a14 : Nat) (a15 : Nat) (a19 : Nat) (a20 : Nat) (a23 : Nat) (a24 : Nat) (a25 : Nat) (a26 : Nat) (a27 : Nat) (a28 : Nat) (p1 : Int32) (p2 : Int32) : Ct l g yX12_plan cX12_plan 3 (some .int) { frames := 2, cells := 0, slots := 0, locals := 46 } [.ref h0, .int p1, .int p2] [(h0, .inr (12, [.int 0, .ref a1, .ref a2, .ref a3, .ref a4, .int 0, .ref a6, .int 0, .int 0, .int 0, .int 0, .int 0, .int 0, .int (-1), .ref a14, .ref a15, .int 0, .int 0, .int 0, .ref a19, .ref a20, .int 0, .int 0, .ref a23, .ref a24, .ref a25, .ref a26, .ref a27, .ref a28])), (a1, .inl (g.2 0, 225, .inl (fun _ => 0)))] (S := Unit) (fun _ => some (.int (-2))) (fun _ => True) (fun u => [(h0, .inr (12, [.int 0, .ref a1, .ref a2, .ref a3, .ref a4, .int 0, .ref a6, .int 0, .int 0, .int 0, .int 0, .int 0, .int 0, .int (-1), .ref a14, .ref a15, .int 0, .int 0, .int 0, .ref a19, .ref a20, .int 0, .int 0, .ref a23, .ref a24, .ref a25, .ref a26, .ref a27, .ref a28])), (a1, .inl (g.2 0, 225, .inl (fun _ => 0)))]) := by
  refine Ct.of (by decide) (Nat.le_of_ble_eq_true rfl) ?_
  intro p e s m below meth c A ls FX hP hD hS hl
  obtain ⟨FC, hr, hlk, hKn, hA, hnm⟩ := id FX
  have FC : CallFix p m c cX12_plan 3 s _ BIG RX12 := FC
  obtain ⟨hx, hb, hml, hown, hB⟩ := id FC
  have hl : lv_has ls 3 [(0, .ref h0), (1, .int p1), (2, .int p2)] := hl
  refine lv_aload_n hx hb dX12_plan_0 rfl (lv_at hl 0 rfl) ?_
  refine lv_iload_n hx hb dX12_plan_1 rfl (lv_at hl 1 rfl) ?_
  refine call_V (As := [.int p1]) (rest := []) (wr := []) FC hKn (c_X12_isPlan l g h0 a1 a2 a3 a4 a6 a14 a15 a19 a20 a23 a24 a25 a26 a27 a28 p1) m_yX12_isPlan b_369 (ci := 12) rfl rfl rfl hP hD hS hA [0, 1] [] rfl (by decide) rfl (by decide) (by decide) rfl hl.1 rfl (Nat.le_of_ble_eq_true rfl) dX12_plan_2 ⟨(Nat.le_of_ble_eq_true rfl), (Nat.le_of_ble_eq_true rfl)⟩ ⟨(Nat.le_of_ble_eq_true rfl), (Nat.le_of_ble_eq_true rfl)⟩ (fun u1 H locs _ hP hD hS => ?_)
  have hP : va_P g.1 vwCl [(h0, .inr (12, [.int 0, .ref a1, .ref a2, .ref a3, .ref a4, .int 0, .ref a6, .int 0, .int 0, .int 0, .int 0, .int 0, .int 0, .int (-1), .ref a14, .ref a15, .int 0, .int 0, .int 0, .ref a19, .ref a20, .int 0, .int 0, .ref a23, .ref a24, .ref a25, .ref a26, .ref a27, .ref a28])), (a1, .inl (g.2 0, 225, .inl (fun _ => 0)))] H := hP
  have hD : va_D A [(h0, .inr (12, [.int 0, .ref a1, .ref a2, .ref a3, .ref a4, .int 0, .ref a6, .int 0, .int 0, .int 0, .int 0, .int 0, .int 0, .int (-1), .ref a14, .ref a15, .int 0, .int 0, .int 0, .ref a19, .ref a20, .int 0, .int 0, .ref a23, .ref a24, .ref a25, .ref a26, .ref a27, .ref a28])), (a1, .inl (g.2 0, 225, .inl (fun _ => 0)))] := hD
  refine W.eq (g2 := F0 m 5 ls [.int 0]) rfl ?_
  refine lv_if_ne (tgt := 13) hx hb dX12_plan_5 (by decide) (fun h => absurd h (by decide)) (fun _ => ?_)
  refine lv_bipush (v := -2) hx hb dX12_plan_8 (by decide) ?_
  refine lv_goto (tgt := 40) hx hb dX12_plan_10 (by decide) ?_
  exact rt_i FX () rfl trivial (hP.sub [0, 1] rfl) (hD.sub [0, 1] (by decide) rfl) hS (Nat.le_of_ble_eq_true rfl) (Nat.le_of_ble_eq_true rfl) dX12_plan_40
set_option maxRecDepth 100000 in
set_option maxHeartbeats 4000000 in
theorem c_X12_news (l : Launch) (g : GG) (h0 : Nat) (a1 : Nat) (a2 : Nat) (a3 : Nat) (a4 : Nat) (a6 : Nat) (a14 : Nat) (a15 : Nat) (a19 : Nat) (a20 : Nat) (a23 : Nat) (a24 : Nat) (a25 : Nat) (a26 : Nat) (a27 : Nat) (a28 : Nat) (p1 : Int32) : Ct l g yX12_news cX12_news 2 (some .int) { frames := 1, cells := 0, slots := 0, locals := 25 } [.ref h0, .int p1] [(h0, .inr (12, [.int 0, .ref a1, .ref a2, .ref a3, .ref a4, .int 0, .ref a6, .int 0, .int 0, .int 0, .int 0, .int 0, .int 0, .int (-1), .ref a14, .ref a15, .int 0, .int 0, .int 0, .ref a19, .ref a20, .int 0, .int 0, .ref a23, .ref a24, .ref a25, .ref a26, .ref a27, .ref a28])), (a1, .inl (g.2 0, 225, .inl (fun _ => 0)))] (S := Unit) (fun _ => some (.int (-1000))) (fun _ => True) (fun u => [(h0, .inr (12, [.int 0, .ref a1, .ref a2, .ref a3, .ref a4, .int 0, .ref a6, .int 0, .int 0, .int 0, .int 0, .int 0, .int 0, .int (-1), .ref a14, .ref a15, .int 0, .int 0, .int 0, .ref a19, .ref a20, .int 0, .int 0, .ref a23, .ref a24, .ref a25, .ref a26, .ref a27, .ref a28])), (a1, .inl (g.2 0, 225, .inl (fun _ => 0)))]) := by
  refine Ct.of (by decide) (Nat.le_of_ble_eq_true rfl) ?_
  intro p e s m below meth c A ls FX hP hD hS hl
  obtain ⟨FC, hr, hlk, hKn, hA, hnm⟩ := id FX
  have FC : CallFix p m c cX12_news 2 s _ BIG RX12 := FC
  obtain ⟨hx, hb, hml, hown, hB⟩ := id FC
  have hl : lv_has ls 2 [(0, .ref h0), (1, .int p1)] := hl
  refine lv_iload_n hx hb dX12_news_0 rfl (lv_at hl 1 rfl) ?_
  refine lv_i2l (v := p1.toInt64) hx hb dX12_news_1 rfl ?_
  refine lv_lconst (v := 0) hx hb dX12_news_2 (by decide) ?_
  refine lv_aload_n hx hb dX12_news_3 rfl (lv_at hl 0 rfl) ?_
  refine g_get (C := RX12) (T := TX12) (N := 29) (ci := 12) (v := .ref a1) FC hKn hP i_X12 0 rfl rfl 1 (by decide) b_362 rfl dX12_news_4 ?_
  refine lv_bipush (v := 8) hx hb dX12_news_7 (by decide) ?_
  refine va_iald hx hb hKn.1 hP 1 0 rfl rfl (by unfold vp_in; decide) dX12_news_9 ?_
  refine tp_i (v := 0) rfl ?_
  refine lv_iconst (v := 1) hx hb dX12_news_10 (by decide) ?_
  refine lv_isub hx hb dX12_news_11 ?_
  refine tp_i (v := -1) (by decide) ?_
  refine lv_i2l (v := -1) hx hb dX12_news_12 (by decide) ?_
  refine call_S (As := [.long p1.toInt64, .long 0, .long (-1)]) (rest := []) (wr := [(h0, .inr (12, [.int 0, .ref a1, .ref a2, .ref a3, .ref a4, .int 0, .ref a6, .int 0, .int 0, .int 0, .int 0, .int 0, .int 0, .int (-1), .ref a14, .ref a15, .int 0, .int 0, .int 0, .ref a19, .ref a20, .int 0, .int 0, .ref a23, .ref a24, .ref a25, .ref a26, .ref a27, .ref a28])), (a1, .inl (g.2 0, 225, .inl (fun _ => 0)))]) FC hKn (c_X12_in l g p1.toInt64 0 (-1)) m_yX12_in b_360 hP hD hS hA [] [0, 1] rfl (by decide) rfl (by decide) (by decide) rfl hl.1 rfl (Nat.le_of_ble_eq_true rfl) dX12_news_13 ⟨(Nat.le_of_ble_eq_true rfl), (Nat.le_of_ble_eq_true rfl)⟩ ⟨(Nat.le_of_ble_eq_true rfl), (Nat.le_of_ble_eq_true rfl)⟩ (fun u1 H locs _ hP hD hS => ?_)
  have hP : va_P g.1 vwCl [(h0, .inr (12, [.int 0, .ref a1, .ref a2, .ref a3, .ref a4, .int 0, .ref a6, .int 0, .int 0, .int 0, .int 0, .int 0, .int 0, .int (-1), .ref a14, .ref a15, .int 0, .int 0, .int 0, .ref a19, .ref a20, .int 0, .int 0, .ref a23, .ref a24, .ref a25, .ref a26, .ref a27, .ref a28])), (a1, .inl (g.2 0, 225, .inl (fun _ => 0)))] H := hP
  have hD : va_D A [(h0, .inr (12, [.int 0, .ref a1, .ref a2, .ref a3, .ref a4, .int 0, .ref a6, .int 0, .int 0, .int 0, .int 0, .int 0, .int 0, .int (-1), .ref a14, .ref a15, .int 0, .int 0, .int 0, .ref a19, .ref a20, .int 0, .int 0, .ref a23, .ref a24, .ref a25, .ref a26, .ref a27, .ref a28])), (a1, .inl (g.2 0, 225, .inl (fun _ => 0)))] := hD
  refine W.eq (g2 := F0 m 16 ls [.int (inF p1.toInt64 0 (-1))]) rfl ?_
  refine tp_i (v := 0) (inF_no (by decide)) ?_
  refine lv_if_eq (tgt := 31) hx hb dX12_news_16 (by decide) (fun _ => ?_) (fun h => absurd h (by decide))
  refine lv_sipush (v := -1000) hx hb dX12_news_31 (by decide) ?_
  exact rt_i FX () rfl trivial (hP.sub [0, 1] rfl) (hD.sub [0, 1] (by decide) rfl) hS (Nat.le_of_ble_eq_true rfl) (Nat.le_of_ble_eq_true rfl) dX12_news_34
set_option maxRecDepth 100000 in
set_option maxHeartbeats 4000000 in
theorem c_X12_tells (l : Launch) (g : GG) (h0 : Nat) (a1 : Nat) (a2 : Nat) (a3 : Nat) (a4 : Nat) (a6 : Nat) (a14 : Nat) (a15 : Nat) (a19 : Nat) (a20 : Nat) (a23 : Nat) (a24 : Nat) (a25 : Nat) (a26 : Nat) (a27 : Nat) (a28 : Nat) (p1 : Int32) : Ct l g yX12_tells cX12_tells 2 (some .int) { frames := 2, cells := 0, slots := 0, locals := 46 } [.ref h0, .int p1] [(h0, .inr (12, [.int 0, .ref a1, .ref a2, .ref a3, .ref a4, .int 0, .ref a6, .int 0, .int 0, .int 0, .int 0, .int 0, .int 0, .int (-1), .ref a14, .ref a15, .int 0, .int 0, .int 0, .ref a19, .ref a20, .int 0, .int 0, .ref a23, .ref a24, .ref a25, .ref a26, .ref a27, .ref a28])), (a1, .inl (g.2 0, 225, .inl (fun _ => 0)))] (S := Unit) (fun _ => some (.int (-2))) (fun _ => True) (fun u => [(h0, .inr (12, [.int 0, .ref a1, .ref a2, .ref a3, .ref a4, .int 0, .ref a6, .int 0, .int 0, .int 0, .int 0, .int 0, .int 0, .int (-1), .ref a14, .ref a15, .int 0, .int 0, .int 0, .ref a19, .ref a20, .int 0, .int 0, .ref a23, .ref a24, .ref a25, .ref a26, .ref a27, .ref a28])), (a1, .inl (g.2 0, 225, .inl (fun _ => 0)))]) := by
  refine Ct.of (by decide) (Nat.le_of_ble_eq_true rfl) ?_
  intro p e s m below meth c A ls FX hP hD hS hl
  obtain ⟨FC, hr, hlk, hKn, hA, hnm⟩ := id FX
  have FC : CallFix p m c cX12_tells 2 s _ BIG RX12 := FC
  obtain ⟨hx, hb, hml, hown, hB⟩ := id FC
  have hl : lv_has ls 2 [(0, .ref h0), (1, .int p1)] := hl
  refine lv_aload_n hx hb dX12_tells_0 rfl (lv_at hl 0 rfl) ?_
  refine lv_iload_n hx hb dX12_tells_1 rfl (lv_at hl 1 rfl) ?_
  refine call_V (As := [.int p1]) (rest := []) (wr := []) FC hKn (c_X12_isHearer l g h0 a1 a2 a3 a4 a6 a14 a15 a19 a20 a23 a24 a25 a26 a27 a28 p1) m_yX12_isHearer b_365 (ci := 12) rfl rfl rfl hP hD hS hA [0, 1] [] rfl (by decide) rfl (by decide) (by decide) rfl hl.1 rfl (Nat.le_of_ble_eq_true rfl) dX12_tells_2 ⟨(Nat.le_of_ble_eq_true rfl), (Nat.le_of_ble_eq_true rfl)⟩ ⟨(Nat.le_of_ble_eq_true rfl), (Nat.le_of_ble_eq_true rfl)⟩ (fun u1 H locs _ hP hD hS => ?_)
  have hP : va_P g.1 vwCl [(h0, .inr (12, [.int 0, .ref a1, .ref a2, .ref a3, .ref a4, .int 0, .ref a6, .int 0, .int 0, .int 0, .int 0, .int 0, .int 0, .int (-1), .ref a14, .ref a15, .int 0, .int 0, .int 0, .ref a19, .ref a20, .int 0, .int 0, .ref a23, .ref a24, .ref a25, .ref a26, .ref a27, .ref a28])), (a1, .inl (g.2 0, 225, .inl (fun _ => 0)))] H := hP
  have hD : va_D A [(h0, .inr (12, [.int 0, .ref a1, .ref a2, .ref a3, .ref a4, .int 0, .ref a6, .int 0, .int 0, .int 0, .int 0, .int 0, .int 0, .int (-1), .ref a14, .ref a15, .int 0, .int 0, .int 0, .ref a19, .ref a20, .int 0, .int 0, .ref a23, .ref a24, .ref a25, .ref a26, .ref a27, .ref a28])), (a1, .inl (g.2 0, 225, .inl (fun _ => 0)))] := hD
  refine W.eq (g2 := F0 m 5 ls [.int 0]) rfl ?_
  refine lv_if_eq (tgt := 20) hx hb dX12_tells_5 (by decide) (fun _ => ?_) (fun h => absurd h (by decide))
  refine lv_bipush (v := -2) hx hb dX12_tells_20 (by decide) ?_
  exact rt_i FX () rfl trivial (hP.sub [0, 1] rfl) (hD.sub [0, 1] (by decide) rfl) hS (Nat.le_of_ble_eq_true rfl) (Nat.le_of_ble_eq_true rfl) dX12_tells_22
set_option maxRecDepth 100000 in
set_option maxHeartbeats 4000000 in
theorem c_X12_mean (l : Launch) (g : GG) (h0 : Nat) (a1 : Nat) (a2 : Nat) (a3 : Nat) (a4 : Nat) (a6 : Nat) (a14 : Nat) (a15 : Nat) (a19 : Nat) (a20 : Nat) (a23 : Nat) (a24 : Nat) (a25 : Nat) (a26 : Nat) (a27 : Nat) (a28 : Nat) (p1 : Int32) (p2 : Int32) : Ct l g yX12_mean cX12_mean 3 (some .int) { frames := 2, cells := 0, slots := 0, locals := 46 } [.ref h0, .int p1, .int p2] [(h0, .inr (12, [.int 0, .ref a1, .ref a2, .ref a3, .ref a4, .int 0, .ref a6, .int 0, .int 0, .int 0, .int 0, .int 0, .int 0, .int (-1), .ref a14, .ref a15, .int 0, .int 0, .int 0, .ref a19, .ref a20, .int 0, .int 0, .ref a23, .ref a24, .ref a25, .ref a26, .ref a27, .ref a28])), (a1, .inl (g.2 0, 225, .inl (fun _ => 0)))] (S := Unit) (fun _ => some (.int (-2))) (fun _ => True) (fun u => [(h0, .inr (12, [.int 0, .ref a1, .ref a2, .ref a3, .ref a4, .int 0, .ref a6, .int 0, .int 0, .int 0, .int 0, .int 0, .int 0, .int (-1), .ref a14, .ref a15, .int 0, .int 0, .int 0, .ref a19, .ref a20, .int 0, .int 0, .ref a23, .ref a24, .ref a25, .ref a26, .ref a27, .ref a28])), (a1, .inl (g.2 0, 225, .inl (fun _ => 0)))]) := by
  refine Ct.of (by decide) (Nat.le_of_ble_eq_true rfl) ?_
  intro p e s m below meth c A ls FX hP hD hS hl
  obtain ⟨FC, hr, hlk, hKn, hA, hnm⟩ := id FX
  have FC : CallFix p m c cX12_mean 3 s _ BIG RX12 := FC
  obtain ⟨hx, hb, hml, hown, hB⟩ := id FC
  have hl : lv_has ls 3 [(0, .ref h0), (1, .int p1), (2, .int p2)] := hl
  refine lv_aload_n hx hb dX12_mean_0 rfl (lv_at hl 0 rfl) ?_
  refine lv_iload_n hx hb dX12_mean_1 rfl (lv_at hl 1 rfl) ?_
  refine call_V (As := [.int p1]) (rest := []) (wr := []) FC hKn (c_X12_isHearer l g h0 a1 a2 a3 a4 a6 a14 a15 a19 a20 a23 a24 a25 a26 a27 a28 p1) m_yX12_isHearer b_365 (ci := 12) rfl rfl rfl hP hD hS hA [0, 1] [] rfl (by decide) rfl (by decide) (by decide) rfl hl.1 rfl (Nat.le_of_ble_eq_true rfl) dX12_mean_2 ⟨(Nat.le_of_ble_eq_true rfl), (Nat.le_of_ble_eq_true rfl)⟩ ⟨(Nat.le_of_ble_eq_true rfl), (Nat.le_of_ble_eq_true rfl)⟩ (fun u1 H locs _ hP hD hS => ?_)
  have hP : va_P g.1 vwCl [(h0, .inr (12, [.int 0, .ref a1, .ref a2, .ref a3, .ref a4, .int 0, .ref a6, .int 0, .int 0, .int 0, .int 0, .int 0, .int 0, .int (-1), .ref a14, .ref a15, .int 0, .int 0, .int 0, .ref a19, .ref a20, .int 0, .int 0, .ref a23, .ref a24, .ref a25, .ref a26, .ref a27, .ref a28])), (a1, .inl (g.2 0, 225, .inl (fun _ => 0)))] H := hP
  have hD : va_D A [(h0, .inr (12, [.int 0, .ref a1, .ref a2, .ref a3, .ref a4, .int 0, .ref a6, .int 0, .int 0, .int 0, .int 0, .int 0, .int 0, .int (-1), .ref a14, .ref a15, .int 0, .int 0, .int 0, .ref a19, .ref a20, .int 0, .int 0, .ref a23, .ref a24, .ref a25, .ref a26, .ref a27, .ref a28])), (a1, .inl (g.2 0, 225, .inl (fun _ => 0)))] := hD
  refine W.eq (g2 := F0 m 5 ls [.int 0]) rfl ?_
  refine lv_if_eq (tgt := 25) hx hb dX12_mean_5 (by decide) (fun _ => ?_) (fun h => absurd h (by decide))
  refine lv_bipush (v := -2) hx hb dX12_mean_25 (by decide) ?_
  exact rt_i FX () rfl trivial (hP.sub [0, 1] rfl) (hD.sub [0, 1] (by decide) rfl) hS (Nat.le_of_ble_eq_true rfl) (Nat.le_of_ble_eq_true rfl) dX12_mean_27
set_option maxRecDepth 100000 in
set_option maxHeartbeats 4000000 in
theorem c_X12_chance (l : Launch) (g : GG) (h0 : Nat) (a1 : Nat) (a2 : Nat) (a3 : Nat) (a4 : Nat) (a6 : Nat) (a14 : Nat) (a15 : Nat) (a19 : Nat) (a20 : Nat) (a23 : Nat) (a24 : Nat) (a25 : Nat) (a26 : Nat) (a27 : Nat) (a28 : Nat) (p1 : Int32) (p2 : Int32) (p3 : Int32) (p4 : Int32) : Ct l g yX12_chance cX12_chance 5 (some .int) { frames := 2, cells := 0, slots := 0, locals := 46 } [.ref h0, .int p1, .int p2, .int p3, .int p4] [(h0, .inr (12, [.int 0, .ref a1, .ref a2, .ref a3, .ref a4, .int 0, .ref a6, .int 0, .int 0, .int 0, .int 0, .int 0, .int 0, .int (-1), .ref a14, .ref a15, .int 0, .int 0, .int 0, .ref a19, .ref a20, .int 0, .int 0, .ref a23, .ref a24, .ref a25, .ref a26, .ref a27, .ref a28])), (a1, .inl (g.2 0, 225, .inl (fun _ => 0)))] (S := Unit) (fun _ => some (.int (-2))) (fun _ => True) (fun u => [(h0, .inr (12, [.int 0, .ref a1, .ref a2, .ref a3, .ref a4, .int 0, .ref a6, .int 0, .int 0, .int 0, .int 0, .int 0, .int 0, .int (-1), .ref a14, .ref a15, .int 0, .int 0, .int 0, .ref a19, .ref a20, .int 0, .int 0, .ref a23, .ref a24, .ref a25, .ref a26, .ref a27, .ref a28])), (a1, .inl (g.2 0, 225, .inl (fun _ => 0)))]) := by
  refine Ct.of (by decide) (Nat.le_of_ble_eq_true rfl) ?_
  intro p e s m below meth c A ls FX hP hD hS hl
  obtain ⟨FC, hr, hlk, hKn, hA, hnm⟩ := id FX
  have FC : CallFix p m c cX12_chance 5 s _ BIG RX12 := FC
  obtain ⟨hx, hb, hml, hown, hB⟩ := id FC
  have hl : lv_has ls 5 [(0, .ref h0), (1, .int p1), (2, .int p2), (3, .int p3), (4, .int p4)] := hl
  refine lv_aload_n hx hb dX12_chance_0 rfl (lv_at hl 0 rfl) ?_
  refine lv_iload_n hx hb dX12_chance_1 rfl (lv_at hl 1 rfl) ?_
  refine call_V (As := [.int p1]) (rest := []) (wr := []) FC hKn (c_X12_isHearer l g h0 a1 a2 a3 a4 a6 a14 a15 a19 a20 a23 a24 a25 a26 a27 a28 p1) m_yX12_isHearer b_365 (ci := 12) rfl rfl rfl hP hD hS hA [0, 1] [] rfl (by decide) rfl (by decide) (by decide) rfl hl.1 rfl (Nat.le_of_ble_eq_true rfl) dX12_chance_2 ⟨(Nat.le_of_ble_eq_true rfl), (Nat.le_of_ble_eq_true rfl)⟩ ⟨(Nat.le_of_ble_eq_true rfl), (Nat.le_of_ble_eq_true rfl)⟩ (fun u1 H locs _ hP hD hS => ?_)
  have hP : va_P g.1 vwCl [(h0, .inr (12, [.int 0, .ref a1, .ref a2, .ref a3, .ref a4, .int 0, .ref a6, .int 0, .int 0, .int 0, .int 0, .int 0, .int 0, .int (-1), .ref a14, .ref a15, .int 0, .int 0, .int 0, .ref a19, .ref a20, .int 0, .int 0, .ref a23, .ref a24, .ref a25, .ref a26, .ref a27, .ref a28])), (a1, .inl (g.2 0, 225, .inl (fun _ => 0)))] H := hP
  have hD : va_D A [(h0, .inr (12, [.int 0, .ref a1, .ref a2, .ref a3, .ref a4, .int 0, .ref a6, .int 0, .int 0, .int 0, .int 0, .int 0, .int 0, .int (-1), .ref a14, .ref a15, .int 0, .int 0, .int 0, .ref a19, .ref a20, .int 0, .int 0, .ref a23, .ref a24, .ref a25, .ref a26, .ref a27, .ref a28])), (a1, .inl (g.2 0, 225, .inl (fun _ => 0)))] := hD
  refine W.eq (g2 := F0 m 5 ls [.int 0]) rfl ?_
  refine lv_if_eq (tgt := 47) hx hb dX12_chance_5 (by decide) (fun _ => ?_) (fun h => absurd h (by decide))
  refine lv_bipush (v := -2) hx hb dX12_chance_47 (by decide) ?_
  exact rt_i FX () rfl trivial (hP.sub [0, 1] rfl) (hD.sub [0, 1] (by decide) rfl) hS (Nat.le_of_ble_eq_true rfl) (Nat.le_of_ble_eq_true rfl) dX12_chance_49
set_option maxRecDepth 100000 in
set_option maxHeartbeats 4000000 in
theorem c_X12_behind (l : Launch) (g : GG) (h0 : Nat) (a1 : Nat) (a2 : Nat) (a3 : Nat) (a4 : Nat) (a6 : Nat) (a14 : Nat) (a15 : Nat) (a19 : Nat) (a20 : Nat) (a23 : Nat) (a24 : Nat) (a25 : Nat) (a26 : Nat) (a27 : Nat) (a28 : Nat) (p1 : Int32) (p2 : Int32) : Ct l g yX12_behind cX12_behind 3 (some .int) { frames := 2, cells := 0, slots := 0, locals := 41 } [.ref h0, .int p1, .int p2] [(h0, .inr (12, [.int 0, .ref a1, .ref a2, .ref a3, .ref a4, .int 0, .ref a6, .int 0, .int 0, .int 0, .int 0, .int 0, .int 0, .int (-1), .ref a14, .ref a15, .int 0, .int 0, .int 0, .ref a19, .ref a20, .int 0, .int 0, .ref a23, .ref a24, .ref a25, .ref a26, .ref a27, .ref a28])), (a1, .inl (g.2 0, 225, .inl (fun _ => 0)))] (S := Unit) (fun _ => some (.int (-2))) (fun _ => True) (fun u => [(h0, .inr (12, [.int 0, .ref a1, .ref a2, .ref a3, .ref a4, .int 0, .ref a6, .int 0, .int 0, .int 0, .int 0, .int 0, .int 0, .int (-1), .ref a14, .ref a15, .int 0, .int 0, .int 0, .ref a19, .ref a20, .int 0, .int 0, .ref a23, .ref a24, .ref a25, .ref a26, .ref a27, .ref a28])), (a1, .inl (g.2 0, 225, .inl (fun _ => 0)))]) := by
  refine Ct.of (by decide) (Nat.le_of_ble_eq_true rfl) ?_
  intro p e s m below meth c A ls FX hP hD hS hl
  obtain ⟨FC, hr, hlk, hKn, hA, hnm⟩ := id FX
  have FC : CallFix p m c cX12_behind 3 s _ BIG RX12 := FC
  obtain ⟨hx, hb, hml, hown, hB⟩ := id FC
  have hl : lv_has ls 3 [(0, .ref h0), (1, .int p1), (2, .int p2)] := hl
  refine lv_aload_n hx hb dX12_behind_0 rfl (lv_at hl 0 rfl) ?_
  refine lv_iload_n hx hb dX12_behind_1 rfl (lv_at hl 1 rfl) ?_
  refine call_V (As := [.int p1]) (rest := []) (wr := []) FC hKn (c_X12_isBelief l g h0 a1 a2 a3 a4 a6 a14 a15 a19 a20 a23 a24 a25 a26 a27 a28 p1) m_yX12_isBelief b_370 (ci := 12) rfl rfl rfl hP hD hS hA [0, 1] [] rfl (by decide) rfl (by decide) (by decide) rfl hl.1 rfl (Nat.le_of_ble_eq_true rfl) dX12_behind_2 ⟨(Nat.le_of_ble_eq_true rfl), (Nat.le_of_ble_eq_true rfl)⟩ ⟨(Nat.le_of_ble_eq_true rfl), (Nat.le_of_ble_eq_true rfl)⟩ (fun u1 H locs _ hP hD hS => ?_)
  have hP : va_P g.1 vwCl [(h0, .inr (12, [.int 0, .ref a1, .ref a2, .ref a3, .ref a4, .int 0, .ref a6, .int 0, .int 0, .int 0, .int 0, .int 0, .int 0, .int (-1), .ref a14, .ref a15, .int 0, .int 0, .int 0, .ref a19, .ref a20, .int 0, .int 0, .ref a23, .ref a24, .ref a25, .ref a26, .ref a27, .ref a28])), (a1, .inl (g.2 0, 225, .inl (fun _ => 0)))] H := hP
  have hD : va_D A [(h0, .inr (12, [.int 0, .ref a1, .ref a2, .ref a3, .ref a4, .int 0, .ref a6, .int 0, .int 0, .int 0, .int 0, .int 0, .int 0, .int (-1), .ref a14, .ref a15, .int 0, .int 0, .int 0, .ref a19, .ref a20, .int 0, .int 0, .ref a23, .ref a24, .ref a25, .ref a26, .ref a27, .ref a28])), (a1, .inl (g.2 0, 225, .inl (fun _ => 0)))] := hD
  refine W.eq (g2 := F0 m 5 ls [.int 0]) rfl ?_
  refine lv_if_eq (tgt := 26) hx hb dX12_behind_5 (by decide) (fun _ => ?_) (fun h => absurd h (by decide))
  refine lv_bipush (v := -2) hx hb dX12_behind_26 (by decide) ?_
  exact rt_i FX () rfl trivial (hP.sub [0, 1] rfl) (hD.sub [0, 1] (by decide) rfl) hS (Nat.le_of_ble_eq_true rfl) (Nat.le_of_ble_eq_true rfl) dX12_behind_28
set_option maxRecDepth 100000 in
set_option maxHeartbeats 4000000 in
theorem c_X12_hurt (l : Launch) (g : GG) (h0 : Nat) (a1 : Nat) (a2 : Nat) (a3 : Nat) (a4 : Nat) (a6 : Nat) (a14 : Nat) (a15 : Nat) (a19 : Nat) (a20 : Nat) (a23 : Nat) (a24 : Nat) (a25 : Nat) (a26 : Nat) (a27 : Nat) (a28 : Nat) (p1 : Int32) (p2 : Int32) (p3 : Int32) : Ct l g yX12_hurt cX12_hurt 4 (some .int) { frames := 2, cells := 0, slots := 0, locals := 46 } [.ref h0, .int p1, .int p2, .int p3] [(h0, .inr (12, [.int 0, .ref a1, .ref a2, .ref a3, .ref a4, .int 0, .ref a6, .int 0, .int 0, .int 0, .int 0, .int 0, .int 0, .int (-1), .ref a14, .ref a15, .int 0, .int 0, .int 0, .ref a19, .ref a20, .int 0, .int 0, .ref a23, .ref a24, .ref a25, .ref a26, .ref a27, .ref a28])), (a1, .inl (g.2 0, 225, .inl (fun _ => 0)))] (S := Unit) (fun _ => some (.int (-2))) (fun _ => True) (fun u => [(h0, .inr (12, [.int 0, .ref a1, .ref a2, .ref a3, .ref a4, .int 0, .ref a6, .int 0, .int 0, .int 0, .int 0, .int 0, .int 0, .int (-1), .ref a14, .ref a15, .int 0, .int 0, .int 0, .ref a19, .ref a20, .int 0, .int 0, .ref a23, .ref a24, .ref a25, .ref a26, .ref a27, .ref a28])), (a1, .inl (g.2 0, 225, .inl (fun _ => 0)))]) := by
  refine Ct.of (by decide) (Nat.le_of_ble_eq_true rfl) ?_
  intro p e s m below meth c A ls FX hP hD hS hl
  obtain ⟨FC, hr, hlk, hKn, hA, hnm⟩ := id FX
  have FC : CallFix p m c cX12_hurt 4 s _ BIG RX12 := FC
  obtain ⟨hx, hb, hml, hown, hB⟩ := id FC
  have hl : lv_has ls 4 [(0, .ref h0), (1, .int p1), (2, .int p2), (3, .int p3)] := hl
  refine lv_aload_n hx hb dX12_hurt_0 rfl (lv_at hl 0 rfl) ?_
  refine lv_iload_n hx hb dX12_hurt_1 rfl (lv_at hl 1 rfl) ?_
  refine call_V (As := [.int p1]) (rest := []) (wr := []) FC hKn (c_X12_isHearer l g h0 a1 a2 a3 a4 a6 a14 a15 a19 a20 a23 a24 a25 a26 a27 a28 p1) m_yX12_isHearer b_365 (ci := 12) rfl rfl rfl hP hD hS hA [0, 1] [] rfl (by decide) rfl (by decide) (by decide) rfl hl.1 rfl (Nat.le_of_ble_eq_true rfl) dX12_hurt_2 ⟨(Nat.le_of_ble_eq_true rfl), (Nat.le_of_ble_eq_true rfl)⟩ ⟨(Nat.le_of_ble_eq_true rfl), (Nat.le_of_ble_eq_true rfl)⟩ (fun u1 H locs _ hP hD hS => ?_)
  have hP : va_P g.1 vwCl [(h0, .inr (12, [.int 0, .ref a1, .ref a2, .ref a3, .ref a4, .int 0, .ref a6, .int 0, .int 0, .int 0, .int 0, .int 0, .int 0, .int (-1), .ref a14, .ref a15, .int 0, .int 0, .int 0, .ref a19, .ref a20, .int 0, .int 0, .ref a23, .ref a24, .ref a25, .ref a26, .ref a27, .ref a28])), (a1, .inl (g.2 0, 225, .inl (fun _ => 0)))] H := hP
  have hD : va_D A [(h0, .inr (12, [.int 0, .ref a1, .ref a2, .ref a3, .ref a4, .int 0, .ref a6, .int 0, .int 0, .int 0, .int 0, .int 0, .int 0, .int (-1), .ref a14, .ref a15, .int 0, .int 0, .int 0, .ref a19, .ref a20, .int 0, .int 0, .ref a23, .ref a24, .ref a25, .ref a26, .ref a27, .ref a28])), (a1, .inl (g.2 0, 225, .inl (fun _ => 0)))] := hD
  refine W.eq (g2 := F0 m 5 ls [.int 0]) rfl ?_
  refine lv_if_eq (tgt := 35) hx hb dX12_hurt_5 (by decide) (fun _ => ?_) (fun h => absurd h (by decide))
  refine lv_bipush (v := -2) hx hb dX12_hurt_35 (by decide) ?_
  exact rt_i FX () rfl trivial (hP.sub [0, 1] rfl) (hD.sub [0, 1] (by decide) rfl) hS (Nat.le_of_ble_eq_true rfl) (Nat.le_of_ble_eq_true rfl) dX12_hurt_37
set_option maxRecDepth 100000 in
set_option maxHeartbeats 4000000 in
theorem c_X12_softest (l : Launch) (g : GG) (h0 : Nat) (a1 : Nat) (a2 : Nat) (a3 : Nat) (a4 : Nat) (a6 : Nat) (a14 : Nat) (a15 : Nat) (a19 : Nat) (a20 : Nat) (a23 : Nat) (a24 : Nat) (a25 : Nat) (a26 : Nat) (a27 : Nat) (a28 : Nat) (p1 : Int32) (p2 : Int32) : Ct l g yX12_softest cX12_softest 5 (some .int) { frames := 2, cells := 0, slots := 0, locals := 46 } [.ref h0, .int p1, .int p2] [(h0, .inr (12, [.int 0, .ref a1, .ref a2, .ref a3, .ref a4, .int 0, .ref a6, .int 0, .int 0, .int 0, .int 0, .int 0, .int 0, .int (-1), .ref a14, .ref a15, .int 0, .int 0, .int 0, .ref a19, .ref a20, .int 0, .int 0, .ref a23, .ref a24, .ref a25, .ref a26, .ref a27, .ref a28])), (a1, .inl (g.2 0, 225, .inl (fun _ => 0)))] (S := Unit) (fun _ => some (.int (-2))) (fun _ => True) (fun u => [(h0, .inr (12, [.int 0, .ref a1, .ref a2, .ref a3, .ref a4, .int 0, .ref a6, .int 0, .int 0, .int 0, .int 0, .int 0, .int 0, .int (-1), .ref a14, .ref a15, .int 0, .int 0, .int 0, .ref a19, .ref a20, .int 0, .int 0, .ref a23, .ref a24, .ref a25, .ref a26, .ref a27, .ref a28])), (a1, .inl (g.2 0, 225, .inl (fun _ => 0)))]) := by
  refine Ct.of (by decide) (Nat.le_of_ble_eq_true rfl) ?_
  intro p e s m below meth c A ls FX hP hD hS hl
  obtain ⟨FC, hr, hlk, hKn, hA, hnm⟩ := id FX
  have FC : CallFix p m c cX12_softest 5 s _ BIG RX12 := FC
  obtain ⟨hx, hb, hml, hown, hB⟩ := id FC
  have hl : lv_has ls 5 [(0, .ref h0), (1, .int p1), (2, .int p2)] := hl
  refine lv_aload_n hx hb dX12_softest_0 rfl (lv_at hl 0 rfl) ?_
  refine lv_iload_n hx hb dX12_softest_1 rfl (lv_at hl 1 rfl) ?_
  refine call_V (As := [.int p1]) (rest := []) (wr := []) FC hKn (c_X12_isHearer l g h0 a1 a2 a3 a4 a6 a14 a15 a19 a20 a23 a24 a25 a26 a27 a28 p1) m_yX12_isHearer b_365 (ci := 12) rfl rfl rfl hP hD hS hA [0, 1] [] rfl (by decide) rfl (by decide) (by decide) rfl hl.1 rfl (Nat.le_of_ble_eq_true rfl) dX12_softest_2 ⟨(Nat.le_of_ble_eq_true rfl), (Nat.le_of_ble_eq_true rfl)⟩ ⟨(Nat.le_of_ble_eq_true rfl), (Nat.le_of_ble_eq_true rfl)⟩ (fun u1 H locs _ hP hD hS => ?_)
  have hP : va_P g.1 vwCl [(h0, .inr (12, [.int 0, .ref a1, .ref a2, .ref a3, .ref a4, .int 0, .ref a6, .int 0, .int 0, .int 0, .int 0, .int 0, .int 0, .int (-1), .ref a14, .ref a15, .int 0, .int 0, .int 0, .ref a19, .ref a20, .int 0, .int 0, .ref a23, .ref a24, .ref a25, .ref a26, .ref a27, .ref a28])), (a1, .inl (g.2 0, 225, .inl (fun _ => 0)))] H := hP
  have hD : va_D A [(h0, .inr (12, [.int 0, .ref a1, .ref a2, .ref a3, .ref a4, .int 0, .ref a6, .int 0, .int 0, .int 0, .int 0, .int 0, .int 0, .int (-1), .ref a14, .ref a15, .int 0, .int 0, .int 0, .ref a19, .ref a20, .int 0, .int 0, .ref a23, .ref a24, .ref a25, .ref a26, .ref a27, .ref a28])), (a1, .inl (g.2 0, 225, .inl (fun _ => 0)))] := hD
  refine W.eq (g2 := F0 m 5 ls [.int 0]) rfl ?_
  refine lv_if_eq (tgt := 16) hx hb dX12_softest_5 (by decide) (fun _ => ?_) (fun h => absurd h (by decide))
  refine lv_bipush (v := -2) hx hb dX12_softest_16 (by decide) ?_
  exact rt_i FX () rfl trivial (hP.sub [0, 1] rfl) (hD.sub [0, 1] (by decide) rfl) hS (Nat.le_of_ble_eq_true rfl) (Nat.le_of_ble_eq_true rfl) dX12_softest_18
set_option maxRecDepth 100000 in
set_option maxHeartbeats 4000000 in
theorem c_X12_believes (l : Launch) (g : GG) (h0 : Nat) (a1 : Nat) (a2 : Nat) (a3 : Nat) (a4 : Nat) (a6 : Nat) (a14 : Nat) (a15 : Nat) (a19 : Nat) (a20 : Nat) (a23 : Nat) (a24 : Nat) (a25 : Nat) (a26 : Nat) (a27 : Nat) (a28 : Nat) (p1 : Int32) : Ct l g yX12_believes cX12_believes 5 (some .int) { frames := 3, cells := 0, slots := 0, locals := 68 } [.ref h0, .int p1] [(h0, .inr (12, [.int 0, .ref a1, .ref a2, .ref a3, .ref a4, .int 0, .ref a6, .int 0, .int 0, .int 0, .int 0, .int 0, .int 0, .int (-1), .ref a14, .ref a15, .int 0, .int 0, .int 0, .ref a19, .ref a20, .int 0, .int 0, .ref a23, .ref a24, .ref a25, .ref a26, .ref a27, .ref a28])), (a1, .inl (g.2 0, 225, .inl (fun _ => 0)))] (S := Unit) (fun _ => some (.int (-2))) (fun _ => True) (fun u => [(h0, .inr (12, [.int 0, .ref a1, .ref a2, .ref a3, .ref a4, .int 0, .ref a6, .int 0, .int 0, .int 0, .int 0, .int 0, .int 0, .int (-1), .ref a14, .ref a15, .int 0, .int 0, .int 0, .ref a19, .ref a20, .int 0, .int 0, .ref a23, .ref a24, .ref a25, .ref a26, .ref a27, .ref a28])), (a1, .inl (g.2 0, 225, .inl (fun _ => 0)))]) := by
  refine Ct.of (by decide) (Nat.le_of_ble_eq_true rfl) ?_
  intro p e s m below meth c A ls FX hP hD hS hl
  obtain ⟨FC, hr, hlk, hKn, hA, hnm⟩ := id FX
  have FC : CallFix p m c cX12_believes 5 s _ BIG RX12 := FC
  obtain ⟨hx, hb, hml, hown, hB⟩ := id FC
  have hl : lv_has ls 5 [(0, .ref h0), (1, .int p1)] := hl
  refine lv_aload_n hx hb dX12_believes_0 rfl (lv_at hl 0 rfl) ?_
  refine lv_iload_n hx hb dX12_believes_1 rfl (lv_at hl 1 rfl) ?_
  refine lv_iconst (v := 1) hx hb dX12_believes_2 (by decide) ?_
  refine call_V (As := [.int p1, .int 1]) (rest := []) (wr := []) FC hKn (c_X12_asksWeek l g h0 a1 a2 a3 a4 a6 a14 a15 a19 a20 a23 a24 a25 a26 a27 a28 p1 1) m_yX12_asksWeek b_366 (ci := 12) rfl rfl rfl hP hD hS hA [0, 1] [] rfl (by decide) rfl (by decide) (by decide) rfl hl.1 rfl (Nat.le_of_ble_eq_true rfl) dX12_believes_3 ⟨(Nat.le_of_ble_eq_true rfl), (Nat.le_of_ble_eq_true rfl)⟩ ⟨(Nat.le_of_ble_eq_true rfl), (Nat.le_of_ble_eq_true rfl)⟩ (fun u1 H locs _ hP hD hS => ?_)
  have hP : va_P g.1 vwCl [(h0, .inr (12, [.int 0, .ref a1, .ref a2, .ref a3, .ref a4, .int 0, .ref a6, .int 0, .int 0, .int 0, .int 0, .int 0, .int 0, .int (-1), .ref a14, .ref a15, .int 0, .int 0, .int 0, .ref a19, .ref a20, .int 0, .int 0, .ref a23, .ref a24, .ref a25, .ref a26, .ref a27, .ref a28])), (a1, .inl (g.2 0, 225, .inl (fun _ => 0)))] H := hP
  have hD : va_D A [(h0, .inr (12, [.int 0, .ref a1, .ref a2, .ref a3, .ref a4, .int 0, .ref a6, .int 0, .int 0, .int 0, .int 0, .int 0, .int 0, .int (-1), .ref a14, .ref a15, .int 0, .int 0, .int 0, .ref a19, .ref a20, .int 0, .int 0, .ref a23, .ref a24, .ref a25, .ref a26, .ref a27, .ref a28])), (a1, .inl (g.2 0, 225, .inl (fun _ => 0)))] := hD
  refine W.eq (g2 := F0 m 6 ls [.int (-2)]) rfl ?_
  refine lv_istore_n (lv' := [(2, .int (-2)), (0, .ref h0), (1, .int p1)]) hx hb dX12_believes_6 rfl hl (by decide) rfl (fun ls hl => ?_)
  refine lv_iload_n hx hb dX12_believes_7 rfl (lv_at hl 0 rfl) ?_
  refine lv_if_ge (tgt := 13) hx hb dX12_believes_8 (by decide) (fun h => absurd h (by decide)) (fun _ => ?_)
  refine lv_iload_n hx hb dX12_believes_11 rfl (lv_at hl 0 rfl) ?_
  exact rt_i FX () rfl trivial (hP.sub [0, 1] rfl) (hD.sub [0, 1] (by decide) rfl) hS (Nat.le_of_ble_eq_true rfl) (Nat.le_of_ble_eq_true rfl) dX12_believes_12
set_option maxRecDepth 100000 in
set_option maxHeartbeats 4000000 in
theorem c_X12_hurts (l : Launch) (g : GG) (h0 : Nat) (a1 : Nat) (a2 : Nat) (a3 : Nat) (a4 : Nat) (a6 : Nat) (a14 : Nat) (a15 : Nat) (a19 : Nat) (a20 : Nat) (a23 : Nat) (a24 : Nat) (a25 : Nat) (a26 : Nat) (a27 : Nat) (a28 : Nat) (p1 : Int32) (p2 : Int32) : Ct l g yX12_hurts cX12_hurts 4 (some .int) { frames := 3, cells := 0, slots := 0, locals := 68 } [.ref h0, .int p1, .int p2] [(h0, .inr (12, [.int 0, .ref a1, .ref a2, .ref a3, .ref a4, .int 0, .ref a6, .int 0, .int 0, .int 0, .int 0, .int 0, .int 0, .int (-1), .ref a14, .ref a15, .int 0, .int 0, .int 0, .ref a19, .ref a20, .int 0, .int 0, .ref a23, .ref a24, .ref a25, .ref a26, .ref a27, .ref a28])), (a1, .inl (g.2 0, 225, .inl (fun _ => 0)))] (S := Unit) (fun _ => some (.int (-2))) (fun _ => True) (fun u => [(h0, .inr (12, [.int 0, .ref a1, .ref a2, .ref a3, .ref a4, .int 0, .ref a6, .int 0, .int 0, .int 0, .int 0, .int 0, .int 0, .int (-1), .ref a14, .ref a15, .int 0, .int 0, .int 0, .ref a19, .ref a20, .int 0, .int 0, .ref a23, .ref a24, .ref a25, .ref a26, .ref a27, .ref a28])), (a1, .inl (g.2 0, 225, .inl (fun _ => 0)))]) := by
  refine Ct.of (by decide) (Nat.le_of_ble_eq_true rfl) ?_
  intro p e s m below meth c A ls FX hP hD hS hl
  obtain ⟨FC, hr, hlk, hKn, hA, hnm⟩ := id FX
  have FC : CallFix p m c cX12_hurts 4 s _ BIG RX12 := FC
  obtain ⟨hx, hb, hml, hown, hB⟩ := id FC
  have hl : lv_has ls 4 [(0, .ref h0), (1, .int p1), (2, .int p2)] := hl
  refine lv_aload_n hx hb dX12_hurts_0 rfl (lv_at hl 0 rfl) ?_
  refine lv_iload_n hx hb dX12_hurts_1 rfl (lv_at hl 1 rfl) ?_
  refine lv_aload_n hx hb dX12_hurts_2 rfl (lv_at hl 0 rfl) ?_
  refine lv_iload_n hx hb dX12_hurts_3 rfl (lv_at hl 2 rfl) ?_
  refine call_V (As := [.int p2]) (rest := [.int p1, .ref h0]) (wr := []) FC hKn (c_X12_isHearer l g h0 a1 a2 a3 a4 a6 a14 a15 a19 a20 a23 a24 a25 a26 a27 a28 p2) m_yX12_isHearer b_365 (ci := 12) rfl rfl rfl hP hD hS hA [0, 1] [] rfl (by decide) rfl (by decide) (by decide) rfl hl.1 rfl (Nat.le_of_ble_eq_true rfl) dX12_hurts_4 ⟨(Nat.le_of_ble_eq_true rfl), (Nat.le_of_ble_eq_true rfl)⟩ ⟨(Nat.le_of_ble_eq_true rfl), (Nat.le_of_ble_eq_true rfl)⟩ (fun u1 H locs _ hP hD hS => ?_)
  have hP : va_P g.1 vwCl [(h0, .inr (12, [.int 0, .ref a1, .ref a2, .ref a3, .ref a4, .int 0, .ref a6, .int 0, .int 0, .int 0, .int 0, .int 0, .int 0, .int (-1), .ref a14, .ref a15, .int 0, .int 0, .int 0, .ref a19, .ref a20, .int 0, .int 0, .ref a23, .ref a24, .ref a25, .ref a26, .ref a27, .ref a28])), (a1, .inl (g.2 0, 225, .inl (fun _ => 0)))] H := hP
  have hD : va_D A [(h0, .inr (12, [.int 0, .ref a1, .ref a2, .ref a3, .ref a4, .int 0, .ref a6, .int 0, .int 0, .int 0, .int 0, .int 0, .int 0, .int (-1), .ref a14, .ref a15, .int 0, .int 0, .int 0, .ref a19, .ref a20, .int 0, .int 0, .ref a23, .ref a24, .ref a25, .ref a26, .ref a27, .ref a28])), (a1, .inl (g.2 0, 225, .inl (fun _ => 0)))] := hD
  refine W.eq (g2 := F0 m 7 ls [.int 0, .int p1, .ref h0]) rfl ?_
  refine call_V (As := [.int p1, .int 0]) (rest := []) (wr := []) FC hKn (c_X12_asksWeek l g h0 a1 a2 a3 a4 a6 a14 a15 a19 a20 a23 a24 a25 a26 a27 a28 p1 0) m_yX12_asksWeek b_366 (ci := 12) rfl rfl rfl hP hD hS hA [0, 1] [] rfl (by decide) rfl (by decide) (by decide) rfl hl.1 rfl (Nat.le_of_ble_eq_true rfl) dX12_hurts_7 ⟨(Nat.le_of_ble_eq_true rfl), (Nat.le_of_ble_eq_true rfl)⟩ ⟨(Nat.le_of_ble_eq_true rfl), (Nat.le_of_ble_eq_true rfl)⟩ (fun u2 H locs _ hP hD hS => ?_)
  have hP : va_P g.1 vwCl [(h0, .inr (12, [.int 0, .ref a1, .ref a2, .ref a3, .ref a4, .int 0, .ref a6, .int 0, .int 0, .int 0, .int 0, .int 0, .int 0, .int (-1), .ref a14, .ref a15, .int 0, .int 0, .int 0, .ref a19, .ref a20, .int 0, .int 0, .ref a23, .ref a24, .ref a25, .ref a26, .ref a27, .ref a28])), (a1, .inl (g.2 0, 225, .inl (fun _ => 0)))] H := hP
  have hD : va_D A [(h0, .inr (12, [.int 0, .ref a1, .ref a2, .ref a3, .ref a4, .int 0, .ref a6, .int 0, .int 0, .int 0, .int 0, .int 0, .int 0, .int (-1), .ref a14, .ref a15, .int 0, .int 0, .int 0, .ref a19, .ref a20, .int 0, .int 0, .ref a23, .ref a24, .ref a25, .ref a26, .ref a27, .ref a28])), (a1, .inl (g.2 0, 225, .inl (fun _ => 0)))] := hD
  refine W.eq (g2 := F0 m 10 ls [.int (-2)]) rfl ?_
  refine lv_istore_n (lv' := [(3, .int (-2)), (0, .ref h0), (1, .int p1), (2, .int p2)]) hx hb dX12_hurts_10 rfl hl (by decide) rfl (fun ls hl => ?_)
  refine lv_iload_n hx hb dX12_hurts_11 rfl (lv_at hl 0 rfl) ?_
  refine lv_if_ge (tgt := 19) hx hb dX12_hurts_12 (by decide) (fun h => absurd h (by decide)) (fun _ => ?_)
  refine lv_iload_n hx hb dX12_hurts_15 rfl (lv_at hl 0 rfl) ?_
  refine lv_goto (tgt := 26) hx hb dX12_hurts_16 (by decide) ?_
  exact rt_i FX () rfl trivial (hP.sub [0, 1] rfl) (hD.sub [0, 1] (by decide) rfl) hS (Nat.le_of_ble_eq_true rfl) (Nat.le_of_ble_eq_true rfl) dX12_hurts_26
set_option maxRecDepth 100000 in
set_option maxHeartbeats 4000000 in
theorem c_X12_worst (l : Launch) (g : GG) (h0 : Nat) (a1 : Nat) (a2 : Nat) (a3 : Nat) (a4 : Nat) (a6 : Nat) (a14 : Nat) (a15 : Nat) (a19 : Nat) (a20 : Nat) (a23 : Nat) (a24 : Nat) (a25 : Nat) (a26 : Nat) (a27 : Nat) (a28 : Nat) (p1 : Int32) (p2 : Int32) : Ct l g yX12_worst cX12_worst 4 (some .int) { frames := 3, cells := 0, slots := 0, locals := 68 } [.ref h0, .int p1, .int p2] [(h0, .inr (12, [.int 0, .ref a1, .ref a2, .ref a3, .ref a4, .int 0, .ref a6, .int 0, .int 0, .int 0, .int 0, .int 0, .int 0, .int (-1), .ref a14, .ref a15, .int 0, .int 0, .int 0, .ref a19, .ref a20, .int 0, .int 0, .ref a23, .ref a24, .ref a25, .ref a26, .ref a27, .ref a28])), (a1, .inl (g.2 0, 225, .inl (fun _ => 0)))] (S := Unit) (fun _ => some (.int (-2))) (fun _ => True) (fun u => [(h0, .inr (12, [.int 0, .ref a1, .ref a2, .ref a3, .ref a4, .int 0, .ref a6, .int 0, .int 0, .int 0, .int 0, .int 0, .int 0, .int (-1), .ref a14, .ref a15, .int 0, .int 0, .int 0, .ref a19, .ref a20, .int 0, .int 0, .ref a23, .ref a24, .ref a25, .ref a26, .ref a27, .ref a28])), (a1, .inl (g.2 0, 225, .inl (fun _ => 0)))]) := by
  refine Ct.of (by decide) (Nat.le_of_ble_eq_true rfl) ?_
  intro p e s m below meth c A ls FX hP hD hS hl
  obtain ⟨FC, hr, hlk, hKn, hA, hnm⟩ := id FX
  have FC : CallFix p m c cX12_worst 4 s _ BIG RX12 := FC
  obtain ⟨hx, hb, hml, hown, hB⟩ := id FC
  have hl : lv_has ls 4 [(0, .ref h0), (1, .int p1), (2, .int p2)] := hl
  refine lv_aload_n hx hb dX12_worst_0 rfl (lv_at hl 0 rfl) ?_
  refine lv_iload_n hx hb dX12_worst_1 rfl (lv_at hl 1 rfl) ?_
  refine lv_aload_n hx hb dX12_worst_2 rfl (lv_at hl 0 rfl) ?_
  refine lv_iload_n hx hb dX12_worst_3 rfl (lv_at hl 2 rfl) ?_
  refine call_V (As := [.int p2]) (rest := [.int p1, .ref h0]) (wr := []) FC hKn (c_X12_isHearer l g h0 a1 a2 a3 a4 a6 a14 a15 a19 a20 a23 a24 a25 a26 a27 a28 p2) m_yX12_isHearer b_365 (ci := 12) rfl rfl rfl hP hD hS hA [0, 1] [] rfl (by decide) rfl (by decide) (by decide) rfl hl.1 rfl (Nat.le_of_ble_eq_true rfl) dX12_worst_4 ⟨(Nat.le_of_ble_eq_true rfl), (Nat.le_of_ble_eq_true rfl)⟩ ⟨(Nat.le_of_ble_eq_true rfl), (Nat.le_of_ble_eq_true rfl)⟩ (fun u1 H locs _ hP hD hS => ?_)
  have hP : va_P g.1 vwCl [(h0, .inr (12, [.int 0, .ref a1, .ref a2, .ref a3, .ref a4, .int 0, .ref a6, .int 0, .int 0, .int 0, .int 0, .int 0, .int 0, .int (-1), .ref a14, .ref a15, .int 0, .int 0, .int 0, .ref a19, .ref a20, .int 0, .int 0, .ref a23, .ref a24, .ref a25, .ref a26, .ref a27, .ref a28])), (a1, .inl (g.2 0, 225, .inl (fun _ => 0)))] H := hP
  have hD : va_D A [(h0, .inr (12, [.int 0, .ref a1, .ref a2, .ref a3, .ref a4, .int 0, .ref a6, .int 0, .int 0, .int 0, .int 0, .int 0, .int 0, .int (-1), .ref a14, .ref a15, .int 0, .int 0, .int 0, .ref a19, .ref a20, .int 0, .int 0, .ref a23, .ref a24, .ref a25, .ref a26, .ref a27, .ref a28])), (a1, .inl (g.2 0, 225, .inl (fun _ => 0)))] := hD
  refine W.eq (g2 := F0 m 7 ls [.int 0, .int p1, .ref h0]) rfl ?_
  refine call_V (As := [.int p1, .int 0]) (rest := []) (wr := []) FC hKn (c_X12_asksWeek l g h0 a1 a2 a3 a4 a6 a14 a15 a19 a20 a23 a24 a25 a26 a27 a28 p1 0) m_yX12_asksWeek b_366 (ci := 12) rfl rfl rfl hP hD hS hA [0, 1] [] rfl (by decide) rfl (by decide) (by decide) rfl hl.1 rfl (Nat.le_of_ble_eq_true rfl) dX12_worst_7 ⟨(Nat.le_of_ble_eq_true rfl), (Nat.le_of_ble_eq_true rfl)⟩ ⟨(Nat.le_of_ble_eq_true rfl), (Nat.le_of_ble_eq_true rfl)⟩ (fun u2 H locs _ hP hD hS => ?_)
  have hP : va_P g.1 vwCl [(h0, .inr (12, [.int 0, .ref a1, .ref a2, .ref a3, .ref a4, .int 0, .ref a6, .int 0, .int 0, .int 0, .int 0, .int 0, .int 0, .int (-1), .ref a14, .ref a15, .int 0, .int 0, .int 0, .ref a19, .ref a20, .int 0, .int 0, .ref a23, .ref a24, .ref a25, .ref a26, .ref a27, .ref a28])), (a1, .inl (g.2 0, 225, .inl (fun _ => 0)))] H := hP
  have hD : va_D A [(h0, .inr (12, [.int 0, .ref a1, .ref a2, .ref a3, .ref a4, .int 0, .ref a6, .int 0, .int 0, .int 0, .int 0, .int 0, .int 0, .int (-1), .ref a14, .ref a15, .int 0, .int 0, .int 0, .ref a19, .ref a20, .int 0, .int 0, .ref a23, .ref a24, .ref a25, .ref a26, .ref a27, .ref a28])), (a1, .inl (g.2 0, 225, .inl (fun _ => 0)))] := hD
  refine W.eq (g2 := F0 m 10 ls [.int (-2)]) rfl ?_
  refine lv_istore_n (lv' := [(3, .int (-2)), (0, .ref h0), (1, .int p1), (2, .int p2)]) hx hb dX12_worst_10 rfl hl (by decide) rfl (fun ls hl => ?_)
  refine lv_iload_n hx hb dX12_worst_11 rfl (lv_at hl 0 rfl) ?_
  refine lv_if_ge (tgt := 19) hx hb dX12_worst_12 (by decide) (fun h => absurd h (by decide)) (fun _ => ?_)
  refine lv_iload_n hx hb dX12_worst_15 rfl (lv_at hl 0 rfl) ?_
  refine lv_goto (tgt := 26) hx hb dX12_worst_16 (by decide) ?_
  exact rt_i FX () rfl trivial (hP.sub [0, 1] rfl) (hD.sub [0, 1] (by decide) rfl) hS (Nat.le_of_ble_eq_true rfl) (Nat.le_of_ble_eq_true rfl) dX12_worst_26
set_option maxRecDepth 100000 in
set_option maxHeartbeats 4000000 in
theorem c_X12_left (l : Launch) (g : GG) (h0 : Nat) (a1 : Nat) (a2 : Nat) (a3 : Nat) (a4 : Nat) (a6 : Nat) (a14 : Nat) (a15 : Nat) (a19 : Nat) (a20 : Nat) (a23 : Nat) (a24 : Nat) (a25 : Nat) (a26 : Nat) (a27 : Nat) (a28 : Nat) (p1 : Int32) (p2 : Int32) : Ct l g yX12_left cX12_left 4 (some .int) { frames := 3, cells := 0, slots := 0, locals := 68 } [.ref h0, .int p1, .int p2] [(h0, .inr (12, [.int 0, .ref a1, .ref a2, .ref a3, .ref a4, .int 0, .ref a6, .int 0, .int 0, .int 0, .int 0, .int 0, .int 0, .int (-1), .ref a14, .ref a15, .int 0, .int 0, .int 0, .ref a19, .ref a20, .int 0, .int 0, .ref a23, .ref a24, .ref a25, .ref a26, .ref a27, .ref a28])), (a1, .inl (g.2 0, 225, .inl (fun _ => 0)))] (S := Unit) (fun _ => some (.int (-2))) (fun _ => True) (fun u => [(h0, .inr (12, [.int 0, .ref a1, .ref a2, .ref a3, .ref a4, .int 0, .ref a6, .int 0, .int 0, .int 0, .int 0, .int 0, .int 0, .int (-1), .ref a14, .ref a15, .int 0, .int 0, .int 0, .ref a19, .ref a20, .int 0, .int 0, .ref a23, .ref a24, .ref a25, .ref a26, .ref a27, .ref a28])), (a1, .inl (g.2 0, 225, .inl (fun _ => 0)))]) := by
  refine Ct.of (by decide) (Nat.le_of_ble_eq_true rfl) ?_
  intro p e s m below meth c A ls FX hP hD hS hl
  obtain ⟨FC, hr, hlk, hKn, hA, hnm⟩ := id FX
  have FC : CallFix p m c cX12_left 4 s _ BIG RX12 := FC
  obtain ⟨hx, hb, hml, hown, hB⟩ := id FC
  have hl : lv_has ls 4 [(0, .ref h0), (1, .int p1), (2, .int p2)] := hl
  refine lv_aload_n hx hb dX12_left_0 rfl (lv_at hl 0 rfl) ?_
  refine lv_iload_n hx hb dX12_left_1 rfl (lv_at hl 1 rfl) ?_
  refine lv_aload_n hx hb dX12_left_2 rfl (lv_at hl 0 rfl) ?_
  refine lv_iload_n hx hb dX12_left_3 rfl (lv_at hl 2 rfl) ?_
  refine call_V (As := [.int p2]) (rest := [.int p1, .ref h0]) (wr := []) FC hKn (c_X12_isHearer l g h0 a1 a2 a3 a4 a6 a14 a15 a19 a20 a23 a24 a25 a26 a27 a28 p2) m_yX12_isHearer b_365 (ci := 12) rfl rfl rfl hP hD hS hA [0, 1] [] rfl (by decide) rfl (by decide) (by decide) rfl hl.1 rfl (Nat.le_of_ble_eq_true rfl) dX12_left_4 ⟨(Nat.le_of_ble_eq_true rfl), (Nat.le_of_ble_eq_true rfl)⟩ ⟨(Nat.le_of_ble_eq_true rfl), (Nat.le_of_ble_eq_true rfl)⟩ (fun u1 H locs _ hP hD hS => ?_)
  have hP : va_P g.1 vwCl [(h0, .inr (12, [.int 0, .ref a1, .ref a2, .ref a3, .ref a4, .int 0, .ref a6, .int 0, .int 0, .int 0, .int 0, .int 0, .int 0, .int (-1), .ref a14, .ref a15, .int 0, .int 0, .int 0, .ref a19, .ref a20, .int 0, .int 0, .ref a23, .ref a24, .ref a25, .ref a26, .ref a27, .ref a28])), (a1, .inl (g.2 0, 225, .inl (fun _ => 0)))] H := hP
  have hD : va_D A [(h0, .inr (12, [.int 0, .ref a1, .ref a2, .ref a3, .ref a4, .int 0, .ref a6, .int 0, .int 0, .int 0, .int 0, .int 0, .int 0, .int (-1), .ref a14, .ref a15, .int 0, .int 0, .int 0, .ref a19, .ref a20, .int 0, .int 0, .ref a23, .ref a24, .ref a25, .ref a26, .ref a27, .ref a28])), (a1, .inl (g.2 0, 225, .inl (fun _ => 0)))] := hD
  refine W.eq (g2 := F0 m 7 ls [.int 0, .int p1, .ref h0]) rfl ?_
  refine call_V (As := [.int p1, .int 0]) (rest := []) (wr := []) FC hKn (c_X12_asksWeek l g h0 a1 a2 a3 a4 a6 a14 a15 a19 a20 a23 a24 a25 a26 a27 a28 p1 0) m_yX12_asksWeek b_366 (ci := 12) rfl rfl rfl hP hD hS hA [0, 1] [] rfl (by decide) rfl (by decide) (by decide) rfl hl.1 rfl (Nat.le_of_ble_eq_true rfl) dX12_left_7 ⟨(Nat.le_of_ble_eq_true rfl), (Nat.le_of_ble_eq_true rfl)⟩ ⟨(Nat.le_of_ble_eq_true rfl), (Nat.le_of_ble_eq_true rfl)⟩ (fun u2 H locs _ hP hD hS => ?_)
  have hP : va_P g.1 vwCl [(h0, .inr (12, [.int 0, .ref a1, .ref a2, .ref a3, .ref a4, .int 0, .ref a6, .int 0, .int 0, .int 0, .int 0, .int 0, .int 0, .int (-1), .ref a14, .ref a15, .int 0, .int 0, .int 0, .ref a19, .ref a20, .int 0, .int 0, .ref a23, .ref a24, .ref a25, .ref a26, .ref a27, .ref a28])), (a1, .inl (g.2 0, 225, .inl (fun _ => 0)))] H := hP
  have hD : va_D A [(h0, .inr (12, [.int 0, .ref a1, .ref a2, .ref a3, .ref a4, .int 0, .ref a6, .int 0, .int 0, .int 0, .int 0, .int 0, .int 0, .int (-1), .ref a14, .ref a15, .int 0, .int 0, .int 0, .ref a19, .ref a20, .int 0, .int 0, .ref a23, .ref a24, .ref a25, .ref a26, .ref a27, .ref a28])), (a1, .inl (g.2 0, 225, .inl (fun _ => 0)))] := hD
  refine W.eq (g2 := F0 m 10 ls [.int (-2)]) rfl ?_
  refine lv_istore_n (lv' := [(3, .int (-2)), (0, .ref h0), (1, .int p1), (2, .int p2)]) hx hb dX12_left_10 rfl hl (by decide) rfl (fun ls hl => ?_)
  refine lv_iload_n hx hb dX12_left_11 rfl (lv_at hl 0 rfl) ?_
  refine lv_if_ge (tgt := 19) hx hb dX12_left_12 (by decide) (fun h => absurd h (by decide)) (fun _ => ?_)
  refine lv_iload_n hx hb dX12_left_15 rfl (lv_at hl 0 rfl) ?_
  refine lv_goto (tgt := 26) hx hb dX12_left_16 (by decide) ?_
  exact rt_i FX () rfl trivial (hP.sub [0, 1] rfl) (hD.sub [0, 1] (by decide) rfl) hS (Nat.le_of_ble_eq_true rfl) (Nat.le_of_ble_eq_true rfl) dX12_left_26
set_option maxRecDepth 100000 in
set_option maxHeartbeats 4000000 in
theorem c_X12_lies (l : Launch) (g : GG) (h0 : Nat) (a1 : Nat) (a2 : Nat) (a3 : Nat) (a4 : Nat) (a6 : Nat) (a14 : Nat) (a15 : Nat) (a19 : Nat) (a20 : Nat) (a23 : Nat) (a24 : Nat) (a25 : Nat) (a26 : Nat) (a27 : Nat) (a28 : Nat) (p1 : Int32) : Ct l g yX12_lies cX12_lies 4 (some .int) { frames := 3, cells := 0, slots := 0, locals := 68 } [.ref h0, .int p1] [(h0, .inr (12, [.int 0, .ref a1, .ref a2, .ref a3, .ref a4, .int 0, .ref a6, .int 0, .int 0, .int 0, .int 0, .int 0, .int 0, .int (-1), .ref a14, .ref a15, .int 0, .int 0, .int 0, .ref a19, .ref a20, .int 0, .int 0, .ref a23, .ref a24, .ref a25, .ref a26, .ref a27, .ref a28])), (a1, .inl (g.2 0, 225, .inl (fun _ => 0)))] (S := Unit) (fun _ => some (.int (-2))) (fun _ => True) (fun u => [(h0, .inr (12, [.int 0, .ref a1, .ref a2, .ref a3, .ref a4, .int 0, .ref a6, .int 0, .int 0, .int 0, .int 0, .int 0, .int 0, .int (-1), .ref a14, .ref a15, .int 0, .int 0, .int 0, .ref a19, .ref a20, .int 0, .int 0, .ref a23, .ref a24, .ref a25, .ref a26, .ref a27, .ref a28])), (a1, .inl (g.2 0, 225, .inl (fun _ => 0)))]) := by
  refine Ct.of (by decide) (Nat.le_of_ble_eq_true rfl) ?_
  intro p e s m below meth c A ls FX hP hD hS hl
  obtain ⟨FC, hr, hlk, hKn, hA, hnm⟩ := id FX
  have FC : CallFix p m c cX12_lies 4 s _ BIG RX12 := FC
  obtain ⟨hx, hb, hml, hown, hB⟩ := id FC
  have hl : lv_has ls 4 [(0, .ref h0), (1, .int p1)] := hl
  refine lv_aload_n hx hb dX12_lies_0 rfl (lv_at hl 0 rfl) ?_
  refine lv_iload_n hx hb dX12_lies_1 rfl (lv_at hl 1 rfl) ?_
  refine lv_iconst (v := 1) hx hb dX12_lies_2 (by decide) ?_
  refine call_V (As := [.int p1, .int 1]) (rest := []) (wr := []) FC hKn (c_X12_asksWeek l g h0 a1 a2 a3 a4 a6 a14 a15 a19 a20 a23 a24 a25 a26 a27 a28 p1 1) m_yX12_asksWeek b_366 (ci := 12) rfl rfl rfl hP hD hS hA [0, 1] [] rfl (by decide) rfl (by decide) (by decide) rfl hl.1 rfl (Nat.le_of_ble_eq_true rfl) dX12_lies_3 ⟨(Nat.le_of_ble_eq_true rfl), (Nat.le_of_ble_eq_true rfl)⟩ ⟨(Nat.le_of_ble_eq_true rfl), (Nat.le_of_ble_eq_true rfl)⟩ (fun u1 H locs _ hP hD hS => ?_)
  have hP : va_P g.1 vwCl [(h0, .inr (12, [.int 0, .ref a1, .ref a2, .ref a3, .ref a4, .int 0, .ref a6, .int 0, .int 0, .int 0, .int 0, .int 0, .int 0, .int (-1), .ref a14, .ref a15, .int 0, .int 0, .int 0, .ref a19, .ref a20, .int 0, .int 0, .ref a23, .ref a24, .ref a25, .ref a26, .ref a27, .ref a28])), (a1, .inl (g.2 0, 225, .inl (fun _ => 0)))] H := hP
  have hD : va_D A [(h0, .inr (12, [.int 0, .ref a1, .ref a2, .ref a3, .ref a4, .int 0, .ref a6, .int 0, .int 0, .int 0, .int 0, .int 0, .int 0, .int (-1), .ref a14, .ref a15, .int 0, .int 0, .int 0, .ref a19, .ref a20, .int 0, .int 0, .ref a23, .ref a24, .ref a25, .ref a26, .ref a27, .ref a28])), (a1, .inl (g.2 0, 225, .inl (fun _ => 0)))] := hD
  refine W.eq (g2 := F0 m 6 ls [.int (-2)]) rfl ?_
  refine lv_istore_n (lv' := [(2, .int (-2)), (0, .ref h0), (1, .int p1)]) hx hb dX12_lies_6 rfl hl (by decide) rfl (fun ls hl => ?_)
  refine lv_iload_n hx hb dX12_lies_7 rfl (lv_at hl 0 rfl) ?_
  refine lv_if_ge (tgt := 13) hx hb dX12_lies_8 (by decide) (fun h => absurd h (by decide)) (fun _ => ?_)
  refine lv_iload_n hx hb dX12_lies_11 rfl (lv_at hl 0 rfl) ?_
  exact rt_i FX () rfl trivial (hP.sub [0, 1] rfl) (hD.sub [0, 1] (by decide) rfl) hS (Nat.le_of_ble_eq_true rfl) (Nat.le_of_ble_eq_true rfl) dX12_lies_12
set_option maxRecDepth 100000 in
set_option maxHeartbeats 4000000 in
theorem c_X12_shames (l : Launch) (g : GG) (h0 : Nat) (a1 : Nat) (a2 : Nat) (a3 : Nat) (a4 : Nat) (a6 : Nat) (a14 : Nat) (a15 : Nat) (a19 : Nat) (a20 : Nat) (a23 : Nat) (a24 : Nat) (a25 : Nat) (a26 : Nat) (a27 : Nat) (a28 : Nat) (p1 : Int32) : Ct l g yX12_shames cX12_shames 5 (some .int) { frames := 3, cells := 0, slots := 0, locals := 68 } [.ref h0, .int p1] [(h0, .inr (12, [.int 0, .ref a1, .ref a2, .ref a3, .ref a4, .int 0, .ref a6, .int 0, .int 0, .int 0, .int 0, .int 0, .int 0, .int (-1), .ref a14, .ref a15, .int 0, .int 0, .int 0, .ref a19, .ref a20, .int 0, .int 0, .ref a23, .ref a24, .ref a25, .ref a26, .ref a27, .ref a28])), (a1, .inl (g.2 0, 225, .inl (fun _ => 0)))] (S := Unit) (fun _ => some (.int (-2))) (fun _ => True) (fun u => [(h0, .inr (12, [.int 0, .ref a1, .ref a2, .ref a3, .ref a4, .int 0, .ref a6, .int 0, .int 0, .int 0, .int 0, .int 0, .int 0, .int (-1), .ref a14, .ref a15, .int 0, .int 0, .int 0, .ref a19, .ref a20, .int 0, .int 0, .ref a23, .ref a24, .ref a25, .ref a26, .ref a27, .ref a28])), (a1, .inl (g.2 0, 225, .inl (fun _ => 0)))]) := by
  refine Ct.of (by decide) (Nat.le_of_ble_eq_true rfl) ?_
  intro p e s m below meth c A ls FX hP hD hS hl
  obtain ⟨FC, hr, hlk, hKn, hA, hnm⟩ := id FX
  have FC : CallFix p m c cX12_shames 5 s _ BIG RX12 := FC
  obtain ⟨hx, hb, hml, hown, hB⟩ := id FC
  have hl : lv_has ls 5 [(0, .ref h0), (1, .int p1)] := hl
  refine lv_aload_n hx hb dX12_shames_0 rfl (lv_at hl 0 rfl) ?_
  refine lv_iload_n hx hb dX12_shames_1 rfl (lv_at hl 1 rfl) ?_
  refine lv_iconst (v := 1) hx hb dX12_shames_2 (by decide) ?_
  refine call_V (As := [.int p1, .int 1]) (rest := []) (wr := []) FC hKn (c_X12_asksWeek l g h0 a1 a2 a3 a4 a6 a14 a15 a19 a20 a23 a24 a25 a26 a27 a28 p1 1) m_yX12_asksWeek b_366 (ci := 12) rfl rfl rfl hP hD hS hA [0, 1] [] rfl (by decide) rfl (by decide) (by decide) rfl hl.1 rfl (Nat.le_of_ble_eq_true rfl) dX12_shames_3 ⟨(Nat.le_of_ble_eq_true rfl), (Nat.le_of_ble_eq_true rfl)⟩ ⟨(Nat.le_of_ble_eq_true rfl), (Nat.le_of_ble_eq_true rfl)⟩ (fun u1 H locs _ hP hD hS => ?_)
  have hP : va_P g.1 vwCl [(h0, .inr (12, [.int 0, .ref a1, .ref a2, .ref a3, .ref a4, .int 0, .ref a6, .int 0, .int 0, .int 0, .int 0, .int 0, .int 0, .int (-1), .ref a14, .ref a15, .int 0, .int 0, .int 0, .ref a19, .ref a20, .int 0, .int 0, .ref a23, .ref a24, .ref a25, .ref a26, .ref a27, .ref a28])), (a1, .inl (g.2 0, 225, .inl (fun _ => 0)))] H := hP
  have hD : va_D A [(h0, .inr (12, [.int 0, .ref a1, .ref a2, .ref a3, .ref a4, .int 0, .ref a6, .int 0, .int 0, .int 0, .int 0, .int 0, .int 0, .int (-1), .ref a14, .ref a15, .int 0, .int 0, .int 0, .ref a19, .ref a20, .int 0, .int 0, .ref a23, .ref a24, .ref a25, .ref a26, .ref a27, .ref a28])), (a1, .inl (g.2 0, 225, .inl (fun _ => 0)))] := hD
  refine W.eq (g2 := F0 m 6 ls [.int (-2)]) rfl ?_
  refine lv_istore_n (lv' := [(2, .int (-2)), (0, .ref h0), (1, .int p1)]) hx hb dX12_shames_6 rfl hl (by decide) rfl (fun ls hl => ?_)
  refine lv_iload_n hx hb dX12_shames_7 rfl (lv_at hl 0 rfl) ?_
  refine lv_if_ge (tgt := 13) hx hb dX12_shames_8 (by decide) (fun h => absurd h (by decide)) (fun _ => ?_)
  refine lv_iload_n hx hb dX12_shames_11 rfl (lv_at hl 0 rfl) ?_
  exact rt_i FX () rfl trivial (hP.sub [0, 1] rfl) (hD.sub [0, 1] (by decide) rfl) hS (Nat.le_of_ble_eq_true rfl) (Nat.le_of_ble_eq_true rfl) dX12_shames_12
set_option maxRecDepth 100000 in
set_option maxHeartbeats 4000000 in
theorem c_X12_known (l : Launch) (g : GG) (h0 : Nat) (a1 : Nat) (a2 : Nat) (a3 : Nat) (a4 : Nat) (a6 : Nat) (a14 : Nat) (a15 : Nat) (a19 : Nat) (a20 : Nat) (a23 : Nat) (a24 : Nat) (a25 : Nat) (a26 : Nat) (a27 : Nat) (a28 : Nat) (p1 : Int32) : Ct l g yX12_known cX12_known 6 (some .int) { frames := 3, cells := 0, slots := 0, locals := 68 } [.ref h0, .int p1] [(h0, .inr (12, [.int 0, .ref a1, .ref a2, .ref a3, .ref a4, .int 0, .ref a6, .int 0, .int 0, .int 0, .int 0, .int 0, .int 0, .int (-1), .ref a14, .ref a15, .int 0, .int 0, .int 0, .ref a19, .ref a20, .int 0, .int 0, .ref a23, .ref a24, .ref a25, .ref a26, .ref a27, .ref a28])), (a1, .inl (g.2 0, 225, .inl (fun _ => 0)))] (S := Unit) (fun _ => some (.int (-2))) (fun _ => True) (fun u => [(h0, .inr (12, [.int 0, .ref a1, .ref a2, .ref a3, .ref a4, .int 0, .ref a6, .int 0, .int 0, .int 0, .int 0, .int 0, .int 0, .int (-1), .ref a14, .ref a15, .int 0, .int 0, .int 0, .ref a19, .ref a20, .int 0, .int 0, .ref a23, .ref a24, .ref a25, .ref a26, .ref a27, .ref a28])), (a1, .inl (g.2 0, 225, .inl (fun _ => 0)))]) := by
  refine Ct.of (by decide) (Nat.le_of_ble_eq_true rfl) ?_
  intro p e s m below meth c A ls FX hP hD hS hl
  obtain ⟨FC, hr, hlk, hKn, hA, hnm⟩ := id FX
  have FC : CallFix p m c cX12_known 6 s _ BIG RX12 := FC
  obtain ⟨hx, hb, hml, hown, hB⟩ := id FC
  have hl : lv_has ls 6 [(0, .ref h0), (1, .int p1)] := hl
  refine lv_aload_n hx hb dX12_known_0 rfl (lv_at hl 0 rfl) ?_
  refine lv_iload_n hx hb dX12_known_1 rfl (lv_at hl 1 rfl) ?_
  refine lv_iconst (v := 1) hx hb dX12_known_2 (by decide) ?_
  refine call_V (As := [.int p1, .int 1]) (rest := []) (wr := []) FC hKn (c_X12_asksWeek l g h0 a1 a2 a3 a4 a6 a14 a15 a19 a20 a23 a24 a25 a26 a27 a28 p1 1) m_yX12_asksWeek b_366 (ci := 12) rfl rfl rfl hP hD hS hA [0, 1] [] rfl (by decide) rfl (by decide) (by decide) rfl hl.1 rfl (Nat.le_of_ble_eq_true rfl) dX12_known_3 ⟨(Nat.le_of_ble_eq_true rfl), (Nat.le_of_ble_eq_true rfl)⟩ ⟨(Nat.le_of_ble_eq_true rfl), (Nat.le_of_ble_eq_true rfl)⟩ (fun u1 H locs _ hP hD hS => ?_)
  have hP : va_P g.1 vwCl [(h0, .inr (12, [.int 0, .ref a1, .ref a2, .ref a3, .ref a4, .int 0, .ref a6, .int 0, .int 0, .int 0, .int 0, .int 0, .int 0, .int (-1), .ref a14, .ref a15, .int 0, .int 0, .int 0, .ref a19, .ref a20, .int 0, .int 0, .ref a23, .ref a24, .ref a25, .ref a26, .ref a27, .ref a28])), (a1, .inl (g.2 0, 225, .inl (fun _ => 0)))] H := hP
  have hD : va_D A [(h0, .inr (12, [.int 0, .ref a1, .ref a2, .ref a3, .ref a4, .int 0, .ref a6, .int 0, .int 0, .int 0, .int 0, .int 0, .int 0, .int (-1), .ref a14, .ref a15, .int 0, .int 0, .int 0, .ref a19, .ref a20, .int 0, .int 0, .ref a23, .ref a24, .ref a25, .ref a26, .ref a27, .ref a28])), (a1, .inl (g.2 0, 225, .inl (fun _ => 0)))] := hD
  refine W.eq (g2 := F0 m 6 ls [.int (-2)]) rfl ?_
  refine lv_istore_n (lv' := [(2, .int (-2)), (0, .ref h0), (1, .int p1)]) hx hb dX12_known_6 rfl hl (by decide) rfl (fun ls hl => ?_)
  refine lv_iload_n hx hb dX12_known_7 rfl (lv_at hl 0 rfl) ?_
  refine lv_if_ge (tgt := 13) hx hb dX12_known_8 (by decide) (fun h => absurd h (by decide)) (fun _ => ?_)
  refine lv_iload_n hx hb dX12_known_11 rfl (lv_at hl 0 rfl) ?_
  exact rt_i FX () rfl trivial (hP.sub [0, 1] rfl) (hD.sub [0, 1] (by decide) rfl) hS (Nat.le_of_ble_eq_true rfl) (Nat.le_of_ble_eq_true rfl) dX12_known_12
set_option maxRecDepth 100000 in
set_option maxHeartbeats 4000000 in
theorem c_X12_softer (l : Launch) (g : GG) (h0 : Nat) (a1 : Nat) (a2 : Nat) (a3 : Nat) (a4 : Nat) (a6 : Nat) (a14 : Nat) (a15 : Nat) (a19 : Nat) (a20 : Nat) (a23 : Nat) (a24 : Nat) (a25 : Nat) (a26 : Nat) (a27 : Nat) (a28 : Nat) (p1 : Int32) (p2 : Int32) : Ct l g yX12_softer cX12_softer 4 (some .int) { frames := 4, cells := 0, slots := 0, locals := 91 } [.ref h0, .int p1, .int p2] [(h0, .inr (12, [.int 0, .ref a1, .ref a2, .ref a3, .ref a4, .int 0, .ref a6, .int 0, .int 0, .int 0, .int 0, .int 0, .int 0, .int (-1), .ref a14, .ref a15, .int 0, .int 0, .int 0, .ref a19, .ref a20, .int 0, .int 0, .ref a23, .ref a24, .ref a25, .ref a26, .ref a27, .ref a28])), (a1, .inl (g.2 0, 225, .inl (fun _ => 0)))] (S := Unit) (fun _ => some (.int (-2))) (fun _ => True) (fun u => [(h0, .inr (12, [.int 0, .ref a1, .ref a2, .ref a3, .ref a4, .int 0, .ref a6, .int 0, .int 0, .int 0, .int 0, .int 0, .int 0, .int (-1), .ref a14, .ref a15, .int 0, .int 0, .int 0, .ref a19, .ref a20, .int 0, .int 0, .ref a23, .ref a24, .ref a25, .ref a26, .ref a27, .ref a28])), (a1, .inl (g.2 0, 225, .inl (fun _ => 0)))]) := by
  refine Ct.of (by decide) (Nat.le_of_ble_eq_true rfl) ?_
  intro p e s m below meth c A ls FX hP hD hS hl
  obtain ⟨FC, hr, hlk, hKn, hA, hnm⟩ := id FX
  have FC : CallFix p m c cX12_softer 4 s _ BIG RX12 := FC
  obtain ⟨hx, hb, hml, hown, hB⟩ := id FC
  have hl : lv_has ls 4 [(0, .ref h0), (1, .int p1), (2, .int p2)] := hl
  refine lv_aload_n hx hb dX12_softer_0 rfl (lv_at hl 0 rfl) ?_
  refine lv_iload_n hx hb dX12_softer_1 rfl (lv_at hl 1 rfl) ?_
  refine lv_iload_n hx hb dX12_softer_2 rfl (lv_at hl 2 rfl) ?_
  refine call_V (As := [.int p1, .int p2]) (rest := []) (wr := []) FC hKn (c_X12_asksOrder l g h0 a1 a2 a3 a4 a6 a14 a15 a19 a20 a23 a24 a25 a26 a27 a28 p1 p2) m_yX12_asksOrder b_371 (ci := 12) rfl rfl rfl hP hD hS hA [0, 1] [] rfl (by decide) rfl (by decide) (by decide) rfl hl.1 rfl (Nat.le_of_ble_eq_true rfl) dX12_softer_3 ⟨(Nat.le_of_ble_eq_true rfl), (Nat.le_of_ble_eq_true rfl)⟩ ⟨(Nat.le_of_ble_eq_true rfl), (Nat.le_of_ble_eq_true rfl)⟩ (fun u1 H locs _ hP hD hS => ?_)
  have hP : va_P g.1 vwCl [(h0, .inr (12, [.int 0, .ref a1, .ref a2, .ref a3, .ref a4, .int 0, .ref a6, .int 0, .int 0, .int 0, .int 0, .int 0, .int 0, .int (-1), .ref a14, .ref a15, .int 0, .int 0, .int 0, .ref a19, .ref a20, .int 0, .int 0, .ref a23, .ref a24, .ref a25, .ref a26, .ref a27, .ref a28])), (a1, .inl (g.2 0, 225, .inl (fun _ => 0)))] H := hP
  have hD : va_D A [(h0, .inr (12, [.int 0, .ref a1, .ref a2, .ref a3, .ref a4, .int 0, .ref a6, .int 0, .int 0, .int 0, .int 0, .int 0, .int 0, .int (-1), .ref a14, .ref a15, .int 0, .int 0, .int 0, .ref a19, .ref a20, .int 0, .int 0, .ref a23, .ref a24, .ref a25, .ref a26, .ref a27, .ref a28])), (a1, .inl (g.2 0, 225, .inl (fun _ => 0)))] := hD
  refine W.eq (g2 := F0 m 6 ls [.int (-2)]) rfl ?_
  refine lv_istore_n (lv' := [(3, .int (-2)), (0, .ref h0), (1, .int p1), (2, .int p2)]) hx hb dX12_softer_6 rfl hl (by decide) rfl (fun ls hl => ?_)
  refine lv_iload_n hx hb dX12_softer_7 rfl (lv_at hl 0 rfl) ?_
  refine lv_if_ge (tgt := 13) hx hb dX12_softer_8 (by decide) (fun h => absurd h (by decide)) (fun _ => ?_)
  refine lv_iload_n hx hb dX12_softer_11 rfl (lv_at hl 0 rfl) ?_
  exact rt_i FX () rfl trivial (hP.sub [0, 1] rfl) (hD.sub [0, 1] (by decide) rfl) hS (Nat.le_of_ble_eq_true rfl) (Nat.le_of_ble_eq_true rfl) dX12_softer_12
set_option maxRecDepth 100000 in
set_option maxHeartbeats 4000000 in
theorem c_X12_ordered (l : Launch) (g : GG) (h0 : Nat) (a1 : Nat) (a2 : Nat) (a3 : Nat) (a4 : Nat) (a6 : Nat) (a14 : Nat) (a15 : Nat) (a19 : Nat) (a20 : Nat) (a23 : Nat) (a24 : Nat) (a25 : Nat) (a26 : Nat) (a27 : Nat) (a28 : Nat) (p1 : Int32) (p2 : Int32) (p3 : Int32) : Ct l g yX12_ordered cX12_ordered 5 (some .int) { frames := 4, cells := 0, slots := 0, locals := 91 } [.ref h0, .int p1, .int p2, .int p3] [(h0, .inr (12, [.int 0, .ref a1, .ref a2, .ref a3, .ref a4, .int 0, .ref a6, .int 0, .int 0, .int 0, .int 0, .int 0, .int 0, .int (-1), .ref a14, .ref a15, .int 0, .int 0, .int 0, .ref a19, .ref a20, .int 0, .int 0, .ref a23, .ref a24, .ref a25, .ref a26, .ref a27, .ref a28])), (a1, .inl (g.2 0, 225, .inl (fun _ => 0)))] (S := Unit) (fun _ => some (.int (-2))) (fun _ => True) (fun u => [(h0, .inr (12, [.int 0, .ref a1, .ref a2, .ref a3, .ref a4, .int 0, .ref a6, .int 0, .int 0, .int 0, .int 0, .int 0, .int 0, .int (-1), .ref a14, .ref a15, .int 0, .int 0, .int 0, .ref a19, .ref a20, .int 0, .int 0, .ref a23, .ref a24, .ref a25, .ref a26, .ref a27, .ref a28])), (a1, .inl (g.2 0, 225, .inl (fun _ => 0)))]) := by
  refine Ct.of (by decide) (Nat.le_of_ble_eq_true rfl) ?_
  intro p e s m below meth c A ls FX hP hD hS hl
  obtain ⟨FC, hr, hlk, hKn, hA, hnm⟩ := id FX
  have FC : CallFix p m c cX12_ordered 5 s _ BIG RX12 := FC
  obtain ⟨hx, hb, hml, hown, hB⟩ := id FC
  have hl : lv_has ls 5 [(0, .ref h0), (1, .int p1), (2, .int p2), (3, .int p3)] := hl
  refine lv_aload_n hx hb dX12_ordered_0 rfl (lv_at hl 0 rfl) ?_
  refine lv_iload_n hx hb dX12_ordered_1 rfl (lv_at hl 1 rfl) ?_
  refine lv_iload_n hx hb dX12_ordered_2 rfl (lv_at hl 2 rfl) ?_
  refine call_V (As := [.int p1, .int p2]) (rest := []) (wr := []) FC hKn (c_X12_asksOrder l g h0 a1 a2 a3 a4 a6 a14 a15 a19 a20 a23 a24 a25 a26 a27 a28 p1 p2) m_yX12_asksOrder b_371 (ci := 12) rfl rfl rfl hP hD hS hA [0, 1] [] rfl (by decide) rfl (by decide) (by decide) rfl hl.1 rfl (Nat.le_of_ble_eq_true rfl) dX12_ordered_3 ⟨(Nat.le_of_ble_eq_true rfl), (Nat.le_of_ble_eq_true rfl)⟩ ⟨(Nat.le_of_ble_eq_true rfl), (Nat.le_of_ble_eq_true rfl)⟩ (fun u1 H locs _ hP hD hS => ?_)
  have hP : va_P g.1 vwCl [(h0, .inr (12, [.int 0, .ref a1, .ref a2, .ref a3, .ref a4, .int 0, .ref a6, .int 0, .int 0, .int 0, .int 0, .int 0, .int 0, .int (-1), .ref a14, .ref a15, .int 0, .int 0, .int 0, .ref a19, .ref a20, .int 0, .int 0, .ref a23, .ref a24, .ref a25, .ref a26, .ref a27, .ref a28])), (a1, .inl (g.2 0, 225, .inl (fun _ => 0)))] H := hP
  have hD : va_D A [(h0, .inr (12, [.int 0, .ref a1, .ref a2, .ref a3, .ref a4, .int 0, .ref a6, .int 0, .int 0, .int 0, .int 0, .int 0, .int 0, .int (-1), .ref a14, .ref a15, .int 0, .int 0, .int 0, .ref a19, .ref a20, .int 0, .int 0, .ref a23, .ref a24, .ref a25, .ref a26, .ref a27, .ref a28])), (a1, .inl (g.2 0, 225, .inl (fun _ => 0)))] := hD
  refine W.eq (g2 := F0 m 6 ls [.int (-2)]) rfl ?_
  refine lv_istore (lv' := [(4, .int (-2)), (0, .ref h0), (1, .int p1), (2, .int p2), (3, .int p3)]) hx hb dX12_ordered_6 hl (by decide) rfl (fun ls hl => ?_)
  refine lv_iload hx hb dX12_ordered_8 (lv_at hl 0 rfl) ?_
  refine lv_if_ge (tgt := 16) hx hb dX12_ordered_10 (by decide) (fun h => absurd h (by decide)) (fun _ => ?_)
  refine lv_iload hx hb dX12_ordered_13 (lv_at hl 0 rfl) ?_
  exact rt_i FX () rfl trivial (hP.sub [0, 1] rfl) (hD.sub [0, 1] (by decide) rfl) hS (Nat.le_of_ble_eq_true rfl) (Nat.le_of_ble_eq_true rfl) dX12_ordered_15
set_option maxRecDepth 100000 in
set_option maxHeartbeats 4000000 in
theorem c_X12_rest (l : Launch) (g : GG) (h0 : Nat) (a1 : Nat) (a2 : Nat) (a3 : Nat) (a4 : Nat) (a6 : Nat) (a14 : Nat) (a15 : Nat) (a19 : Nat) (a20 : Nat) (a23 : Nat) (a24 : Nat) (a25 : Nat) (a26 : Nat) (a27 : Nat) (a28 : Nat) (p1 : Int32) : Ct l g yX12_rest cX12_rest 7 (some .int) { frames := 2, cells := 0, slots := 0, locals := 46 } [.ref h0, .int p1] [(h0, .inr (12, [.int 0, .ref a1, .ref a2, .ref a3, .ref a4, .int 0, .ref a6, .int 0, .int 0, .int 0, .int 0, .int 0, .int 0, .int (-1), .ref a14, .ref a15, .int 0, .int 0, .int 0, .ref a19, .ref a20, .int 0, .int 0, .ref a23, .ref a24, .ref a25, .ref a26, .ref a27, .ref a28])), (a1, .inl (g.2 0, 225, .inl (fun _ => 0)))] (S := Unit) (fun _ => some (.int (-2))) (fun _ => True) (fun u => [(h0, .inr (12, [.int 0, .ref a1, .ref a2, .ref a3, .ref a4, .int 0, .ref a6, .int 0, .int 0, .int 0, .int 0, .int 0, .int 0, .int (-1), .ref a14, .ref a15, .int 0, .int 0, .int 0, .ref a19, .ref a20, .int 0, .int 0, .ref a23, .ref a24, .ref a25, .ref a26, .ref a27, .ref a28])), (a1, .inl (g.2 0, 225, .inl (fun _ => 0)))]) := by
  refine Ct.of (by decide) (Nat.le_of_ble_eq_true rfl) ?_
  intro p e s m below meth c A ls FX hP hD hS hl
  obtain ⟨FC, hr, hlk, hKn, hA, hnm⟩ := id FX
  have FC : CallFix p m c cX12_rest 7 s _ BIG RX12 := FC
  obtain ⟨hx, hb, hml, hown, hB⟩ := id FC
  have hl : lv_has ls 7 [(0, .ref h0), (1, .int p1)] := hl
  refine lv_aload_n hx hb dX12_rest_0 rfl (lv_at hl 0 rfl) ?_
  refine lv_iload_n hx hb dX12_rest_1 rfl (lv_at hl 1 rfl) ?_
  refine call_V (As := [.int p1]) (rest := []) (wr := []) FC hKn (c_X12_isHearer l g h0 a1 a2 a3 a4 a6 a14 a15 a19 a20 a23 a24 a25 a26 a27 a28 p1) m_yX12_isHearer b_365 (ci := 12) rfl rfl rfl hP hD hS hA [0, 1] [] rfl (by decide) rfl (by decide) (by decide) rfl hl.1 rfl (Nat.le_of_ble_eq_true rfl) dX12_rest_2 ⟨(Nat.le_of_ble_eq_true rfl), (Nat.le_of_ble_eq_true rfl)⟩ ⟨(Nat.le_of_ble_eq_true rfl), (Nat.le_of_ble_eq_true rfl)⟩ (fun u1 H locs _ hP hD hS => ?_)
  have hP : va_P g.1 vwCl [(h0, .inr (12, [.int 0, .ref a1, .ref a2, .ref a3, .ref a4, .int 0, .ref a6, .int 0, .int 0, .int 0, .int 0, .int 0, .int 0, .int (-1), .ref a14, .ref a15, .int 0, .int 0, .int 0, .ref a19, .ref a20, .int 0, .int 0, .ref a23, .ref a24, .ref a25, .ref a26, .ref a27, .ref a28])), (a1, .inl (g.2 0, 225, .inl (fun _ => 0)))] H := hP
  have hD : va_D A [(h0, .inr (12, [.int 0, .ref a1, .ref a2, .ref a3, .ref a4, .int 0, .ref a6, .int 0, .int 0, .int 0, .int 0, .int 0, .int 0, .int (-1), .ref a14, .ref a15, .int 0, .int 0, .int 0, .ref a19, .ref a20, .int 0, .int 0, .ref a23, .ref a24, .ref a25, .ref a26, .ref a27, .ref a28])), (a1, .inl (g.2 0, 225, .inl (fun _ => 0)))] := hD
  refine W.eq (g2 := F0 m 5 ls [.int 0]) rfl ?_
  refine lv_if_ne (tgt := 11) hx hb dX12_rest_5 (by decide) (fun h => absurd h (by decide)) (fun _ => ?_)
  refine lv_bipush (v := -2) hx hb dX12_rest_8 (by decide) ?_
  exact rt_i FX () rfl trivial (hP.sub [0, 1] rfl) (hD.sub [0, 1] (by decide) rfl) hS (Nat.le_of_ble_eq_true rfl) (Nat.le_of_ble_eq_true rfl) dX12_rest_10
set_option maxRecDepth 100000 in
set_option maxHeartbeats 4000000 in
theorem c_X12_least (l : Launch) (g : GG) (h0 : Nat) (a1 : Nat) (a2 : Nat) (a3 : Nat) (a4 : Nat) (a6 : Nat) (a14 : Nat) (a15 : Nat) (a19 : Nat) (a20 : Nat) (a23 : Nat) (a24 : Nat) (a25 : Nat) (a26 : Nat) (a27 : Nat) (a28 : Nat) (p1 : Int32) : Ct l g yX12_least cX12_least 2 (some .int) { frames := 2, cells := 0, slots := 0, locals := 46 } [.ref h0, .int p1] [(h0, .inr (12, [.int 0, .ref a1, .ref a2, .ref a3, .ref a4, .int 0, .ref a6, .int 0, .int 0, .int 0, .int 0, .int 0, .int 0, .int (-1), .ref a14, .ref a15, .int 0, .int 0, .int 0, .ref a19, .ref a20, .int 0, .int 0, .ref a23, .ref a24, .ref a25, .ref a26, .ref a27, .ref a28])), (a1, .inl (g.2 0, 225, .inl (fun _ => 0)))] (S := Unit) (fun _ => some (.int (-2))) (fun _ => True) (fun u => [(h0, .inr (12, [.int 0, .ref a1, .ref a2, .ref a3, .ref a4, .int 0, .ref a6, .int 0, .int 0, .int 0, .int 0, .int 0, .int 0, .int (-1), .ref a14, .ref a15, .int 0, .int 0, .int 0, .ref a19, .ref a20, .int 0, .int 0, .ref a23, .ref a24, .ref a25, .ref a26, .ref a27, .ref a28])), (a1, .inl (g.2 0, 225, .inl (fun _ => 0)))]) := by
  refine Ct.of (by decide) (Nat.le_of_ble_eq_true rfl) ?_
  intro p e s m below meth c A ls FX hP hD hS hl
  obtain ⟨FC, hr, hlk, hKn, hA, hnm⟩ := id FX
  have FC : CallFix p m c cX12_least 2 s _ BIG RX12 := FC
  obtain ⟨hx, hb, hml, hown, hB⟩ := id FC
  have hl : lv_has ls 2 [(0, .ref h0), (1, .int p1)] := hl
  refine lv_aload_n hx hb dX12_least_0 rfl (lv_at hl 0 rfl) ?_
  refine lv_iload_n hx hb dX12_least_1 rfl (lv_at hl 1 rfl) ?_
  refine call_V (As := [.int p1]) (rest := []) (wr := []) FC hKn (c_X12_isHearer l g h0 a1 a2 a3 a4 a6 a14 a15 a19 a20 a23 a24 a25 a26 a27 a28 p1) m_yX12_isHearer b_365 (ci := 12) rfl rfl rfl hP hD hS hA [0, 1] [] rfl (by decide) rfl (by decide) (by decide) rfl hl.1 rfl (Nat.le_of_ble_eq_true rfl) dX12_least_2 ⟨(Nat.le_of_ble_eq_true rfl), (Nat.le_of_ble_eq_true rfl)⟩ ⟨(Nat.le_of_ble_eq_true rfl), (Nat.le_of_ble_eq_true rfl)⟩ (fun u1 H locs _ hP hD hS => ?_)
  have hP : va_P g.1 vwCl [(h0, .inr (12, [.int 0, .ref a1, .ref a2, .ref a3, .ref a4, .int 0, .ref a6, .int 0, .int 0, .int 0, .int 0, .int 0, .int 0, .int (-1), .ref a14, .ref a15, .int 0, .int 0, .int 0, .ref a19, .ref a20, .int 0, .int 0, .ref a23, .ref a24, .ref a25, .ref a26, .ref a27, .ref a28])), (a1, .inl (g.2 0, 225, .inl (fun _ => 0)))] H := hP
  have hD : va_D A [(h0, .inr (12, [.int 0, .ref a1, .ref a2, .ref a3, .ref a4, .int 0, .ref a6, .int 0, .int 0, .int 0, .int 0, .int 0, .int 0, .int (-1), .ref a14, .ref a15, .int 0, .int 0, .int 0, .ref a19, .ref a20, .int 0, .int 0, .ref a23, .ref a24, .ref a25, .ref a26, .ref a27, .ref a28])), (a1, .inl (g.2 0, 225, .inl (fun _ => 0)))] := hD
  refine W.eq (g2 := F0 m 5 ls [.int 0]) rfl ?_
  refine lv_if_eq (tgt := 17) hx hb dX12_least_5 (by decide) (fun _ => ?_) (fun h => absurd h (by decide))
  refine lv_bipush (v := -2) hx hb dX12_least_17 (by decide) ?_
  exact rt_i FX () rfl trivial (hP.sub [0, 1] rfl) (hD.sub [0, 1] (by decide) rfl) hS (Nat.le_of_ble_eq_true rfl) (Nat.le_of_ble_eq_true rfl) dX12_least_19
set_option maxRecDepth 100000 in
set_option maxHeartbeats 4000000 in
theorem c_X12_step (l : Launch) (g : GG) (h0 : Nat) (a1 : Nat) (a2 : Nat) (a3 : Nat) (a4 : Nat) (a6 : Nat) (a14 : Nat) (a15 : Nat) (a19 : Nat) (a20 : Nat) (a23 : Nat) (a24 : Nat) (a25 : Nat) (a26 : Nat) (a27 : Nat) (a28 : Nat) (p1 : Int32) (p2 : Int32) : Ct l g yX12_step cX12_step 3 (some .int) { frames := 2, cells := 0, slots := 0, locals := 46 } [.ref h0, .int p1, .int p2] [(h0, .inr (12, [.int 0, .ref a1, .ref a2, .ref a3, .ref a4, .int 0, .ref a6, .int 0, .int 0, .int 0, .int 0, .int 0, .int 0, .int (-1), .ref a14, .ref a15, .int 0, .int 0, .int 0, .ref a19, .ref a20, .int 0, .int 0, .ref a23, .ref a24, .ref a25, .ref a26, .ref a27, .ref a28])), (a1, .inl (g.2 0, 225, .inl (fun _ => 0)))] (S := Unit) (fun _ => some (.int (-2))) (fun _ => True) (fun u => [(h0, .inr (12, [.int 0, .ref a1, .ref a2, .ref a3, .ref a4, .int 0, .ref a6, .int 0, .int 0, .int 0, .int 0, .int 0, .int 0, .int (-1), .ref a14, .ref a15, .int 0, .int 0, .int 0, .ref a19, .ref a20, .int 0, .int 0, .ref a23, .ref a24, .ref a25, .ref a26, .ref a27, .ref a28])), (a1, .inl (g.2 0, 225, .inl (fun _ => 0)))]) := by
  refine Ct.of (by decide) (Nat.le_of_ble_eq_true rfl) ?_
  intro p e s m below meth c A ls FX hP hD hS hl
  obtain ⟨FC, hr, hlk, hKn, hA, hnm⟩ := id FX
  have FC : CallFix p m c cX12_step 3 s _ BIG RX12 := FC
  obtain ⟨hx, hb, hml, hown, hB⟩ := id FC
  have hl : lv_has ls 3 [(0, .ref h0), (1, .int p1), (2, .int p2)] := hl
  refine lv_aload_n hx hb dX12_step_0 rfl (lv_at hl 0 rfl) ?_
  refine lv_iload_n hx hb dX12_step_1 rfl (lv_at hl 1 rfl) ?_
  refine call_V (As := [.int p1]) (rest := []) (wr := []) FC hKn (c_X12_isHearer l g h0 a1 a2 a3 a4 a6 a14 a15 a19 a20 a23 a24 a25 a26 a27 a28 p1) m_yX12_isHearer b_365 (ci := 12) rfl rfl rfl hP hD hS hA [0, 1] [] rfl (by decide) rfl (by decide) (by decide) rfl hl.1 rfl (Nat.le_of_ble_eq_true rfl) dX12_step_2 ⟨(Nat.le_of_ble_eq_true rfl), (Nat.le_of_ble_eq_true rfl)⟩ ⟨(Nat.le_of_ble_eq_true rfl), (Nat.le_of_ble_eq_true rfl)⟩ (fun u1 H locs _ hP hD hS => ?_)
  have hP : va_P g.1 vwCl [(h0, .inr (12, [.int 0, .ref a1, .ref a2, .ref a3, .ref a4, .int 0, .ref a6, .int 0, .int 0, .int 0, .int 0, .int 0, .int 0, .int (-1), .ref a14, .ref a15, .int 0, .int 0, .int 0, .ref a19, .ref a20, .int 0, .int 0, .ref a23, .ref a24, .ref a25, .ref a26, .ref a27, .ref a28])), (a1, .inl (g.2 0, 225, .inl (fun _ => 0)))] H := hP
  have hD : va_D A [(h0, .inr (12, [.int 0, .ref a1, .ref a2, .ref a3, .ref a4, .int 0, .ref a6, .int 0, .int 0, .int 0, .int 0, .int 0, .int 0, .int (-1), .ref a14, .ref a15, .int 0, .int 0, .int 0, .ref a19, .ref a20, .int 0, .int 0, .ref a23, .ref a24, .ref a25, .ref a26, .ref a27, .ref a28])), (a1, .inl (g.2 0, 225, .inl (fun _ => 0)))] := hD
  refine W.eq (g2 := F0 m 5 ls [.int 0]) rfl ?_
  refine lv_if_eq (tgt := 26) hx hb dX12_step_5 (by decide) (fun _ => ?_) (fun h => absurd h (by decide))
  refine lv_bipush (v := -2) hx hb dX12_step_26 (by decide) ?_
  exact rt_i FX () rfl trivial (hP.sub [0, 1] rfl) (hD.sub [0, 1] (by decide) rfl) hS (Nat.le_of_ble_eq_true rfl) (Nat.le_of_ble_eq_true rfl) dX12_step_28
set_option maxRecDepth 100000 in
set_option maxHeartbeats 4000000 in
theorem c_X12_truly (l : Launch) (g : GG) (h0 : Nat) (a1 : Nat) (a2 : Nat) (a3 : Nat) (a4 : Nat) (a6 : Nat) (a14 : Nat) (a15 : Nat) (a19 : Nat) (a20 : Nat) (a23 : Nat) (a24 : Nat) (a25 : Nat) (a26 : Nat) (a27 : Nat) (a28 : Nat) (p1 : Int32) : Ct l g yX12_truly cX12_truly 2 (some .int) { frames := 2, cells := 0, slots := 0, locals := 46 } [.ref h0, .int p1] [(h0, .inr (12, [.int 0, .ref a1, .ref a2, .ref a3, .ref a4, .int 0, .ref a6, .int 0, .int 0, .int 0, .int 0, .int 0, .int 0, .int (-1), .ref a14, .ref a15, .int 0, .int 0, .int 0, .ref a19, .ref a20, .int 0, .int 0, .ref a23, .ref a24, .ref a25, .ref a26, .ref a27, .ref a28])), (a1, .inl (g.2 0, 225, .inl (fun _ => 0)))] (S := Unit) (fun _ => some (.int (-2))) (fun _ => True) (fun u => [(h0, .inr (12, [.int 0, .ref a1, .ref a2, .ref a3, .ref a4, .int 0, .ref a6, .int 0, .int 0, .int 0, .int 0, .int 0, .int 0, .int (-1), .ref a14, .ref a15, .int 0, .int 0, .int 0, .ref a19, .ref a20, .int 0, .int 0, .ref a23, .ref a24, .ref a25, .ref a26, .ref a27, .ref a28])), (a1, .inl (g.2 0, 225, .inl (fun _ => 0)))]) := by
  refine Ct.of (by decide) (Nat.le_of_ble_eq_true rfl) ?_
  intro p e s m below meth c A ls FX hP hD hS hl
  obtain ⟨FC, hr, hlk, hKn, hA, hnm⟩ := id FX
  have FC : CallFix p m c cX12_truly 2 s _ BIG RX12 := FC
  obtain ⟨hx, hb, hml, hown, hB⟩ := id FC
  have hl : lv_has ls 2 [(0, .ref h0), (1, .int p1)] := hl
  refine lv_aload_n hx hb dX12_truly_0 rfl (lv_at hl 0 rfl) ?_
  refine lv_iload_n hx hb dX12_truly_1 rfl (lv_at hl 1 rfl) ?_
  refine call_V (As := [.int p1]) (rest := []) (wr := []) FC hKn (c_X12_isHearer l g h0 a1 a2 a3 a4 a6 a14 a15 a19 a20 a23 a24 a25 a26 a27 a28 p1) m_yX12_isHearer b_365 (ci := 12) rfl rfl rfl hP hD hS hA [0, 1] [] rfl (by decide) rfl (by decide) (by decide) rfl hl.1 rfl (Nat.le_of_ble_eq_true rfl) dX12_truly_2 ⟨(Nat.le_of_ble_eq_true rfl), (Nat.le_of_ble_eq_true rfl)⟩ ⟨(Nat.le_of_ble_eq_true rfl), (Nat.le_of_ble_eq_true rfl)⟩ (fun u1 H locs _ hP hD hS => ?_)
  have hP : va_P g.1 vwCl [(h0, .inr (12, [.int 0, .ref a1, .ref a2, .ref a3, .ref a4, .int 0, .ref a6, .int 0, .int 0, .int 0, .int 0, .int 0, .int 0, .int (-1), .ref a14, .ref a15, .int 0, .int 0, .int 0, .ref a19, .ref a20, .int 0, .int 0, .ref a23, .ref a24, .ref a25, .ref a26, .ref a27, .ref a28])), (a1, .inl (g.2 0, 225, .inl (fun _ => 0)))] H := hP
  have hD : va_D A [(h0, .inr (12, [.int 0, .ref a1, .ref a2, .ref a3, .ref a4, .int 0, .ref a6, .int 0, .int 0, .int 0, .int 0, .int 0, .int 0, .int (-1), .ref a14, .ref a15, .int 0, .int 0, .int 0, .ref a19, .ref a20, .int 0, .int 0, .ref a23, .ref a24, .ref a25, .ref a26, .ref a27, .ref a28])), (a1, .inl (g.2 0, 225, .inl (fun _ => 0)))] := hD
  refine W.eq (g2 := F0 m 5 ls [.int 0]) rfl ?_
  refine lv_if_eq (tgt := 17) hx hb dX12_truly_5 (by decide) (fun _ => ?_) (fun h => absurd h (by decide))
  refine lv_bipush (v := -2) hx hb dX12_truly_17 (by decide) ?_
  exact rt_i FX () rfl trivial (hP.sub [0, 1] rfl) (hD.sub [0, 1] (by decide) rfl) hS (Nat.le_of_ble_eq_true rfl) (Nat.le_of_ble_eq_true rfl) dX12_truly_19
set_option maxRecDepth 100000 in
set_option maxHeartbeats 4000000 in
theorem c_X12_honest (l : Launch) (g : GG) (h0 : Nat) (a1 : Nat) (a2 : Nat) (a3 : Nat) (a4 : Nat) (a6 : Nat) (a14 : Nat) (a15 : Nat) (a19 : Nat) (a20 : Nat) (a23 : Nat) (a24 : Nat) (a25 : Nat) (a26 : Nat) (a27 : Nat) (a28 : Nat) (p1 : Int32) (p2 : Int32) : Ct l g yX12_honest cX12_honest 3 (some .int) { frames := 2, cells := 0, slots := 0, locals := 46 } [.ref h0, .int p1, .int p2] [(h0, .inr (12, [.int 0, .ref a1, .ref a2, .ref a3, .ref a4, .int 0, .ref a6, .int 0, .int 0, .int 0, .int 0, .int 0, .int 0, .int (-1), .ref a14, .ref a15, .int 0, .int 0, .int 0, .ref a19, .ref a20, .int 0, .int 0, .ref a23, .ref a24, .ref a25, .ref a26, .ref a27, .ref a28])), (a1, .inl (g.2 0, 225, .inl (fun _ => 0)))] (S := Unit) (fun _ => some (.int (-2))) (fun _ => True) (fun u => [(h0, .inr (12, [.int 0, .ref a1, .ref a2, .ref a3, .ref a4, .int 0, .ref a6, .int 0, .int 0, .int 0, .int 0, .int 0, .int 0, .int (-1), .ref a14, .ref a15, .int 0, .int 0, .int 0, .ref a19, .ref a20, .int 0, .int 0, .ref a23, .ref a24, .ref a25, .ref a26, .ref a27, .ref a28])), (a1, .inl (g.2 0, 225, .inl (fun _ => 0)))]) := by
  refine Ct.of (by decide) (Nat.le_of_ble_eq_true rfl) ?_
  intro p e s m below meth c A ls FX hP hD hS hl
  obtain ⟨FC, hr, hlk, hKn, hA, hnm⟩ := id FX
  have FC : CallFix p m c cX12_honest 3 s _ BIG RX12 := FC
  obtain ⟨hx, hb, hml, hown, hB⟩ := id FC
  have hl : lv_has ls 3 [(0, .ref h0), (1, .int p1), (2, .int p2)] := hl
  refine lv_aload_n hx hb dX12_honest_0 rfl (lv_at hl 0 rfl) ?_
  refine lv_iload_n hx hb dX12_honest_1 rfl (lv_at hl 1 rfl) ?_
  refine call_V (As := [.int p1]) (rest := []) (wr := []) FC hKn (c_X12_isHearer l g h0 a1 a2 a3 a4 a6 a14 a15 a19 a20 a23 a24 a25 a26 a27 a28 p1) m_yX12_isHearer b_365 (ci := 12) rfl rfl rfl hP hD hS hA [0, 1] [] rfl (by decide) rfl (by decide) (by decide) rfl hl.1 rfl (Nat.le_of_ble_eq_true rfl) dX12_honest_2 ⟨(Nat.le_of_ble_eq_true rfl), (Nat.le_of_ble_eq_true rfl)⟩ ⟨(Nat.le_of_ble_eq_true rfl), (Nat.le_of_ble_eq_true rfl)⟩ (fun u1 H locs _ hP hD hS => ?_)
  have hP : va_P g.1 vwCl [(h0, .inr (12, [.int 0, .ref a1, .ref a2, .ref a3, .ref a4, .int 0, .ref a6, .int 0, .int 0, .int 0, .int 0, .int 0, .int 0, .int (-1), .ref a14, .ref a15, .int 0, .int 0, .int 0, .ref a19, .ref a20, .int 0, .int 0, .ref a23, .ref a24, .ref a25, .ref a26, .ref a27, .ref a28])), (a1, .inl (g.2 0, 225, .inl (fun _ => 0)))] H := hP
  have hD : va_D A [(h0, .inr (12, [.int 0, .ref a1, .ref a2, .ref a3, .ref a4, .int 0, .ref a6, .int 0, .int 0, .int 0, .int 0, .int 0, .int 0, .int (-1), .ref a14, .ref a15, .int 0, .int 0, .int 0, .ref a19, .ref a20, .int 0, .int 0, .ref a23, .ref a24, .ref a25, .ref a26, .ref a27, .ref a28])), (a1, .inl (g.2 0, 225, .inl (fun _ => 0)))] := hD
  refine W.eq (g2 := F0 m 5 ls [.int 0]) rfl ?_
  refine lv_if_eq (tgt := 26) hx hb dX12_honest_5 (by decide) (fun _ => ?_) (fun h => absurd h (by decide))
  refine lv_bipush (v := -2) hx hb dX12_honest_26 (by decide) ?_
  exact rt_i FX () rfl trivial (hP.sub [0, 1] rfl) (hD.sub [0, 1] (by decide) rfl) hS (Nat.le_of_ble_eq_true rfl) (Nat.le_of_ble_eq_true rfl) dX12_honest_28
set_option maxRecDepth 100000 in
set_option maxHeartbeats 4000000 in
theorem c_X12_gentlest (l : Launch) (g : GG) (h0 : Nat) (a1 : Nat) (a2 : Nat) (a3 : Nat) (a4 : Nat) (a6 : Nat) (a14 : Nat) (a15 : Nat) (a19 : Nat) (a20 : Nat) (a23 : Nat) (a24 : Nat) (a25 : Nat) (a26 : Nat) (a27 : Nat) (a28 : Nat) (p1 : Int32) : Ct l g yX12_gentlest cX12_gentlest 2 (some .int) { frames := 2, cells := 0, slots := 0, locals := 46 } [.ref h0, .int p1] [(h0, .inr (12, [.int 0, .ref a1, .ref a2, .ref a3, .ref a4, .int 0, .ref a6, .int 0, .int 0, .int 0, .int 0, .int 0, .int 0, .int (-1), .ref a14, .ref a15, .int 0, .int 0, .int 0, .ref a19, .ref a20, .int 0, .int 0, .ref a23, .ref a24, .ref a25, .ref a26, .ref a27, .ref a28])), (a1, .inl (g.2 0, 225, .inl (fun _ => 0)))] (S := Unit) (fun _ => some (.int (-2))) (fun _ => True) (fun u => [(h0, .inr (12, [.int 0, .ref a1, .ref a2, .ref a3, .ref a4, .int 0, .ref a6, .int 0, .int 0, .int 0, .int 0, .int 0, .int 0, .int (-1), .ref a14, .ref a15, .int 0, .int 0, .int 0, .ref a19, .ref a20, .int 0, .int 0, .ref a23, .ref a24, .ref a25, .ref a26, .ref a27, .ref a28])), (a1, .inl (g.2 0, 225, .inl (fun _ => 0)))]) := by
  refine Ct.of (by decide) (Nat.le_of_ble_eq_true rfl) ?_
  intro p e s m below meth c A ls FX hP hD hS hl
  obtain ⟨FC, hr, hlk, hKn, hA, hnm⟩ := id FX
  have FC : CallFix p m c cX12_gentlest 2 s _ BIG RX12 := FC
  obtain ⟨hx, hb, hml, hown, hB⟩ := id FC
  have hl : lv_has ls 2 [(0, .ref h0), (1, .int p1)] := hl
  refine lv_aload_n hx hb dX12_gentlest_0 rfl (lv_at hl 0 rfl) ?_
  refine lv_iload_n hx hb dX12_gentlest_1 rfl (lv_at hl 1 rfl) ?_
  refine call_V (As := [.int p1]) (rest := []) (wr := []) FC hKn (c_X12_isHearer l g h0 a1 a2 a3 a4 a6 a14 a15 a19 a20 a23 a24 a25 a26 a27 a28 p1) m_yX12_isHearer b_365 (ci := 12) rfl rfl rfl hP hD hS hA [0, 1] [] rfl (by decide) rfl (by decide) (by decide) rfl hl.1 rfl (Nat.le_of_ble_eq_true rfl) dX12_gentlest_2 ⟨(Nat.le_of_ble_eq_true rfl), (Nat.le_of_ble_eq_true rfl)⟩ ⟨(Nat.le_of_ble_eq_true rfl), (Nat.le_of_ble_eq_true rfl)⟩ (fun u1 H locs _ hP hD hS => ?_)
  have hP : va_P g.1 vwCl [(h0, .inr (12, [.int 0, .ref a1, .ref a2, .ref a3, .ref a4, .int 0, .ref a6, .int 0, .int 0, .int 0, .int 0, .int 0, .int 0, .int (-1), .ref a14, .ref a15, .int 0, .int 0, .int 0, .ref a19, .ref a20, .int 0, .int 0, .ref a23, .ref a24, .ref a25, .ref a26, .ref a27, .ref a28])), (a1, .inl (g.2 0, 225, .inl (fun _ => 0)))] H := hP
  have hD : va_D A [(h0, .inr (12, [.int 0, .ref a1, .ref a2, .ref a3, .ref a4, .int 0, .ref a6, .int 0, .int 0, .int 0, .int 0, .int 0, .int 0, .int (-1), .ref a14, .ref a15, .int 0, .int 0, .int 0, .ref a19, .ref a20, .int 0, .int 0, .ref a23, .ref a24, .ref a25, .ref a26, .ref a27, .ref a28])), (a1, .inl (g.2 0, 225, .inl (fun _ => 0)))] := hD
  refine W.eq (g2 := F0 m 5 ls [.int 0]) rfl ?_
  refine lv_if_eq (tgt := 17) hx hb dX12_gentlest_5 (by decide) (fun _ => ?_) (fun h => absurd h (by decide))
  refine lv_bipush (v := -2) hx hb dX12_gentlest_17 (by decide) ?_
  exact rt_i FX () rfl trivial (hP.sub [0, 1] rfl) (hD.sub [0, 1] (by decide) rfl) hS (Nat.le_of_ble_eq_true rfl) (Nat.le_of_ble_eq_true rfl) dX12_gentlest_19
set_option maxRecDepth 100000 in
set_option maxHeartbeats 4000000 in
theorem c_X12_gently (l : Launch) (g : GG) (h0 : Nat) (a1 : Nat) (a2 : Nat) (a3 : Nat) (a4 : Nat) (a6 : Nat) (a14 : Nat) (a15 : Nat) (a19 : Nat) (a20 : Nat) (a23 : Nat) (a24 : Nat) (a25 : Nat) (a26 : Nat) (a27 : Nat) (a28 : Nat) (p1 : Int32) (p2 : Int32) : Ct l g yX12_gently cX12_gently 3 (some .int) { frames := 2, cells := 0, slots := 0, locals := 46 } [.ref h0, .int p1, .int p2] [(h0, .inr (12, [.int 0, .ref a1, .ref a2, .ref a3, .ref a4, .int 0, .ref a6, .int 0, .int 0, .int 0, .int 0, .int 0, .int 0, .int (-1), .ref a14, .ref a15, .int 0, .int 0, .int 0, .ref a19, .ref a20, .int 0, .int 0, .ref a23, .ref a24, .ref a25, .ref a26, .ref a27, .ref a28])), (a1, .inl (g.2 0, 225, .inl (fun _ => 0)))] (S := Unit) (fun _ => some (.int (-2))) (fun _ => True) (fun u => [(h0, .inr (12, [.int 0, .ref a1, .ref a2, .ref a3, .ref a4, .int 0, .ref a6, .int 0, .int 0, .int 0, .int 0, .int 0, .int 0, .int (-1), .ref a14, .ref a15, .int 0, .int 0, .int 0, .ref a19, .ref a20, .int 0, .int 0, .ref a23, .ref a24, .ref a25, .ref a26, .ref a27, .ref a28])), (a1, .inl (g.2 0, 225, .inl (fun _ => 0)))]) := by
  refine Ct.of (by decide) (Nat.le_of_ble_eq_true rfl) ?_
  intro p e s m below meth c A ls FX hP hD hS hl
  obtain ⟨FC, hr, hlk, hKn, hA, hnm⟩ := id FX
  have FC : CallFix p m c cX12_gently 3 s _ BIG RX12 := FC
  obtain ⟨hx, hb, hml, hown, hB⟩ := id FC
  have hl : lv_has ls 3 [(0, .ref h0), (1, .int p1), (2, .int p2)] := hl
  refine lv_aload_n hx hb dX12_gently_0 rfl (lv_at hl 0 rfl) ?_
  refine lv_iload_n hx hb dX12_gently_1 rfl (lv_at hl 1 rfl) ?_
  refine call_V (As := [.int p1]) (rest := []) (wr := []) FC hKn (c_X12_isHearer l g h0 a1 a2 a3 a4 a6 a14 a15 a19 a20 a23 a24 a25 a26 a27 a28 p1) m_yX12_isHearer b_365 (ci := 12) rfl rfl rfl hP hD hS hA [0, 1] [] rfl (by decide) rfl (by decide) (by decide) rfl hl.1 rfl (Nat.le_of_ble_eq_true rfl) dX12_gently_2 ⟨(Nat.le_of_ble_eq_true rfl), (Nat.le_of_ble_eq_true rfl)⟩ ⟨(Nat.le_of_ble_eq_true rfl), (Nat.le_of_ble_eq_true rfl)⟩ (fun u1 H locs _ hP hD hS => ?_)
  have hP : va_P g.1 vwCl [(h0, .inr (12, [.int 0, .ref a1, .ref a2, .ref a3, .ref a4, .int 0, .ref a6, .int 0, .int 0, .int 0, .int 0, .int 0, .int 0, .int (-1), .ref a14, .ref a15, .int 0, .int 0, .int 0, .ref a19, .ref a20, .int 0, .int 0, .ref a23, .ref a24, .ref a25, .ref a26, .ref a27, .ref a28])), (a1, .inl (g.2 0, 225, .inl (fun _ => 0)))] H := hP
  have hD : va_D A [(h0, .inr (12, [.int 0, .ref a1, .ref a2, .ref a3, .ref a4, .int 0, .ref a6, .int 0, .int 0, .int 0, .int 0, .int 0, .int 0, .int (-1), .ref a14, .ref a15, .int 0, .int 0, .int 0, .ref a19, .ref a20, .int 0, .int 0, .ref a23, .ref a24, .ref a25, .ref a26, .ref a27, .ref a28])), (a1, .inl (g.2 0, 225, .inl (fun _ => 0)))] := hD
  refine W.eq (g2 := F0 m 5 ls [.int 0]) rfl ?_
  refine lv_if_eq (tgt := 26) hx hb dX12_gently_5 (by decide) (fun _ => ?_) (fun h => absurd h (by decide))
  refine lv_bipush (v := -2) hx hb dX12_gently_26 (by decide) ?_
  exact rt_i FX () rfl trivial (hP.sub [0, 1] rfl) (hD.sub [0, 1] (by decide) rfl) hS (Nat.le_of_ble_eq_true rfl) (Nat.le_of_ble_eq_true rfl) dX12_gently_28
set_option maxRecDepth 100000 in
set_option maxHeartbeats 4000000 in
theorem c_X12_tender (l : Launch) (g : GG) (h0 : Nat) (a1 : Nat) (a2 : Nat) (a3 : Nat) (a4 : Nat) (a6 : Nat) (a14 : Nat) (a15 : Nat) (a19 : Nat) (a20 : Nat) (a23 : Nat) (a24 : Nat) (a25 : Nat) (a26 : Nat) (a27 : Nat) (a28 : Nat) (p1 : Int32) : Ct l g yX12_tender cX12_tender 2 (some .int) { frames := 2, cells := 0, slots := 0, locals := 46 } [.ref h0, .int p1] [(h0, .inr (12, [.int 0, .ref a1, .ref a2, .ref a3, .ref a4, .int 0, .ref a6, .int 0, .int 0, .int 0, .int 0, .int 0, .int 0, .int (-1), .ref a14, .ref a15, .int 0, .int 0, .int 0, .ref a19, .ref a20, .int 0, .int 0, .ref a23, .ref a24, .ref a25, .ref a26, .ref a27, .ref a28])), (a1, .inl (g.2 0, 225, .inl (fun _ => 0)))] (S := Unit) (fun _ => some (.int (-2))) (fun _ => True) (fun u => [(h0, .inr (12, [.int 0, .ref a1, .ref a2, .ref a3, .ref a4, .int 0, .ref a6, .int 0, .int 0, .int 0, .int 0, .int 0, .int 0, .int (-1), .ref a14, .ref a15, .int 0, .int 0, .int 0, .ref a19, .ref a20, .int 0, .int 0, .ref a23, .ref a24, .ref a25, .ref a26, .ref a27, .ref a28])), (a1, .inl (g.2 0, 225, .inl (fun _ => 0)))]) := by
  refine Ct.of (by decide) (Nat.le_of_ble_eq_true rfl) ?_
  intro p e s m below meth c A ls FX hP hD hS hl
  obtain ⟨FC, hr, hlk, hKn, hA, hnm⟩ := id FX
  have FC : CallFix p m c cX12_tender 2 s _ BIG RX12 := FC
  obtain ⟨hx, hb, hml, hown, hB⟩ := id FC
  have hl : lv_has ls 2 [(0, .ref h0), (1, .int p1)] := hl
  refine lv_aload_n hx hb dX12_tender_0 rfl (lv_at hl 0 rfl) ?_
  refine lv_iload_n hx hb dX12_tender_1 rfl (lv_at hl 1 rfl) ?_
  refine call_V (As := [.int p1]) (rest := []) (wr := []) FC hKn (c_X12_isHearer l g h0 a1 a2 a3 a4 a6 a14 a15 a19 a20 a23 a24 a25 a26 a27 a28 p1) m_yX12_isHearer b_365 (ci := 12) rfl rfl rfl hP hD hS hA [0, 1] [] rfl (by decide) rfl (by decide) (by decide) rfl hl.1 rfl (Nat.le_of_ble_eq_true rfl) dX12_tender_2 ⟨(Nat.le_of_ble_eq_true rfl), (Nat.le_of_ble_eq_true rfl)⟩ ⟨(Nat.le_of_ble_eq_true rfl), (Nat.le_of_ble_eq_true rfl)⟩ (fun u1 H locs _ hP hD hS => ?_)
  have hP : va_P g.1 vwCl [(h0, .inr (12, [.int 0, .ref a1, .ref a2, .ref a3, .ref a4, .int 0, .ref a6, .int 0, .int 0, .int 0, .int 0, .int 0, .int 0, .int (-1), .ref a14, .ref a15, .int 0, .int 0, .int 0, .ref a19, .ref a20, .int 0, .int 0, .ref a23, .ref a24, .ref a25, .ref a26, .ref a27, .ref a28])), (a1, .inl (g.2 0, 225, .inl (fun _ => 0)))] H := hP
  have hD : va_D A [(h0, .inr (12, [.int 0, .ref a1, .ref a2, .ref a3, .ref a4, .int 0, .ref a6, .int 0, .int 0, .int 0, .int 0, .int 0, .int 0, .int (-1), .ref a14, .ref a15, .int 0, .int 0, .int 0, .ref a19, .ref a20, .int 0, .int 0, .ref a23, .ref a24, .ref a25, .ref a26, .ref a27, .ref a28])), (a1, .inl (g.2 0, 225, .inl (fun _ => 0)))] := hD
  refine W.eq (g2 := F0 m 5 ls [.int 0]) rfl ?_
  refine lv_if_eq (tgt := 17) hx hb dX12_tender_5 (by decide) (fun _ => ?_) (fun h => absurd h (by decide))
  refine lv_bipush (v := -2) hx hb dX12_tender_17 (by decide) ?_
  exact rt_i FX () rfl trivial (hP.sub [0, 1] rfl) (hD.sub [0, 1] (by decide) rfl) hS (Nat.le_of_ble_eq_true rfl) (Nat.le_of_ble_eq_true rfl) dX12_tender_19
set_option maxRecDepth 100000 in
set_option maxHeartbeats 4000000 in
theorem c_X12_tenderly (l : Launch) (g : GG) (h0 : Nat) (a1 : Nat) (a2 : Nat) (a3 : Nat) (a4 : Nat) (a6 : Nat) (a14 : Nat) (a15 : Nat) (a19 : Nat) (a20 : Nat) (a23 : Nat) (a24 : Nat) (a25 : Nat) (a26 : Nat) (a27 : Nat) (a28 : Nat) (p1 : Int32) (p2 : Int32) : Ct l g yX12_tenderly cX12_tenderly 3 (some .int) { frames := 2, cells := 0, slots := 0, locals := 46 } [.ref h0, .int p1, .int p2] [(h0, .inr (12, [.int 0, .ref a1, .ref a2, .ref a3, .ref a4, .int 0, .ref a6, .int 0, .int 0, .int 0, .int 0, .int 0, .int 0, .int (-1), .ref a14, .ref a15, .int 0, .int 0, .int 0, .ref a19, .ref a20, .int 0, .int 0, .ref a23, .ref a24, .ref a25, .ref a26, .ref a27, .ref a28])), (a1, .inl (g.2 0, 225, .inl (fun _ => 0)))] (S := Unit) (fun _ => some (.int (-2))) (fun _ => True) (fun u => [(h0, .inr (12, [.int 0, .ref a1, .ref a2, .ref a3, .ref a4, .int 0, .ref a6, .int 0, .int 0, .int 0, .int 0, .int 0, .int 0, .int (-1), .ref a14, .ref a15, .int 0, .int 0, .int 0, .ref a19, .ref a20, .int 0, .int 0, .ref a23, .ref a24, .ref a25, .ref a26, .ref a27, .ref a28])), (a1, .inl (g.2 0, 225, .inl (fun _ => 0)))]) := by
  refine Ct.of (by decide) (Nat.le_of_ble_eq_true rfl) ?_
  intro p e s m below meth c A ls FX hP hD hS hl
  obtain ⟨FC, hr, hlk, hKn, hA, hnm⟩ := id FX
  have FC : CallFix p m c cX12_tenderly 3 s _ BIG RX12 := FC
  obtain ⟨hx, hb, hml, hown, hB⟩ := id FC
  have hl : lv_has ls 3 [(0, .ref h0), (1, .int p1), (2, .int p2)] := hl
  refine lv_aload_n hx hb dX12_tenderly_0 rfl (lv_at hl 0 rfl) ?_
  refine lv_iload_n hx hb dX12_tenderly_1 rfl (lv_at hl 1 rfl) ?_
  refine call_V (As := [.int p1]) (rest := []) (wr := []) FC hKn (c_X12_isHearer l g h0 a1 a2 a3 a4 a6 a14 a15 a19 a20 a23 a24 a25 a26 a27 a28 p1) m_yX12_isHearer b_365 (ci := 12) rfl rfl rfl hP hD hS hA [0, 1] [] rfl (by decide) rfl (by decide) (by decide) rfl hl.1 rfl (Nat.le_of_ble_eq_true rfl) dX12_tenderly_2 ⟨(Nat.le_of_ble_eq_true rfl), (Nat.le_of_ble_eq_true rfl)⟩ ⟨(Nat.le_of_ble_eq_true rfl), (Nat.le_of_ble_eq_true rfl)⟩ (fun u1 H locs _ hP hD hS => ?_)
  have hP : va_P g.1 vwCl [(h0, .inr (12, [.int 0, .ref a1, .ref a2, .ref a3, .ref a4, .int 0, .ref a6, .int 0, .int 0, .int 0, .int 0, .int 0, .int 0, .int (-1), .ref a14, .ref a15, .int 0, .int 0, .int 0, .ref a19, .ref a20, .int 0, .int 0, .ref a23, .ref a24, .ref a25, .ref a26, .ref a27, .ref a28])), (a1, .inl (g.2 0, 225, .inl (fun _ => 0)))] H := hP
  have hD : va_D A [(h0, .inr (12, [.int 0, .ref a1, .ref a2, .ref a3, .ref a4, .int 0, .ref a6, .int 0, .int 0, .int 0, .int 0, .int 0, .int 0, .int (-1), .ref a14, .ref a15, .int 0, .int 0, .int 0, .ref a19, .ref a20, .int 0, .int 0, .ref a23, .ref a24, .ref a25, .ref a26, .ref a27, .ref a28])), (a1, .inl (g.2 0, 225, .inl (fun _ => 0)))] := hD
  refine W.eq (g2 := F0 m 5 ls [.int 0]) rfl ?_
  refine lv_if_eq (tgt := 26) hx hb dX12_tenderly_5 (by decide) (fun _ => ?_) (fun h => absurd h (by decide))
  refine lv_bipush (v := -2) hx hb dX12_tenderly_26 (by decide) ?_
  exact rt_i FX () rfl trivial (hP.sub [0, 1] rfl) (hD.sub [0, 1] (by decide) rfl) hS (Nat.le_of_ble_eq_true rfl) (Nat.le_of_ble_eq_true rfl) dX12_tenderly_28
set_option maxRecDepth 100000 in
set_option maxHeartbeats 4000000 in
theorem c_X12_hope (l : Launch) (g : GG) (h0 : Nat) (a1 : Nat) (a2 : Nat) (a3 : Nat) (a4 : Nat) (a6 : Nat) (a14 : Nat) (a15 : Nat) (a19 : Nat) (a20 : Nat) (a23 : Nat) (a24 : Nat) (a25 : Nat) (a26 : Nat) (a27 : Nat) (a28 : Nat) (p1 : Int32) (p2 : Int32) (p3 : Int32) (p4 : Int32) : Ct l g yX12_hope cX12_hope 8 (some .int) { frames := 3, cells := 0, slots := 0, locals := 68 } [.ref h0, .int p1, .int p2, .int p3, .int p4] [(h0, .inr (12, [.int 0, .ref a1, .ref a2, .ref a3, .ref a4, .int 0, .ref a6, .int 0, .int 0, .int 0, .int 0, .int 0, .int 0, .int (-1), .ref a14, .ref a15, .int 0, .int 0, .int 0, .ref a19, .ref a20, .int 0, .int 0, .ref a23, .ref a24, .ref a25, .ref a26, .ref a27, .ref a28])), (a1, .inl (g.2 0, 225, .inl (fun _ => 0)))] (S := Unit) (fun _ => some (.int (-2))) (fun _ => True) (fun u => [(h0, .inr (12, [.int 0, .ref a1, .ref a2, .ref a3, .ref a4, .int 0, .ref a6, .int 0, .int 0, .int 0, .int 0, .int 0, .int 0, .int (-1), .ref a14, .ref a15, .int 0, .int 0, .int 0, .ref a19, .ref a20, .int 0, .int 0, .ref a23, .ref a24, .ref a25, .ref a26, .ref a27, .ref a28])), (a1, .inl (g.2 0, 225, .inl (fun _ => 0)))]) := by
  refine Ct.of (by decide) (Nat.le_of_ble_eq_true rfl) ?_
  intro p e s m below meth c A ls FX hP hD hS hl
  obtain ⟨FC, hr, hlk, hKn, hA, hnm⟩ := id FX
  have FC : CallFix p m c cX12_hope 8 s _ BIG RX12 := FC
  obtain ⟨hx, hb, hml, hown, hB⟩ := id FC
  have hl : lv_has ls 8 [(0, .ref h0), (1, .int p1), (2, .int p2), (3, .int p3), (4, .int p4)] := hl
  refine lv_aload_n hx hb dX12_hope_0 rfl (lv_at hl 0 rfl) ?_
  refine lv_iload_n hx hb dX12_hope_1 rfl (lv_at hl 1 rfl) ?_
  refine lv_aload_n hx hb dX12_hope_2 rfl (lv_at hl 0 rfl) ?_
  refine lv_iload_n hx hb dX12_hope_3 rfl (lv_at hl 2 rfl) ?_
  refine call_V (As := [.int p2]) (rest := [.int p1, .ref h0]) (wr := []) FC hKn (c_X12_isHearer l g h0 a1 a2 a3 a4 a6 a14 a15 a19 a20 a23 a24 a25 a26 a27 a28 p2) m_yX12_isHearer b_365 (ci := 12) rfl rfl rfl hP hD hS hA [0, 1] [] rfl (by decide) rfl (by decide) (by decide) rfl hl.1 rfl (Nat.le_of_ble_eq_true rfl) dX12_hope_4 ⟨(Nat.le_of_ble_eq_true rfl), (Nat.le_of_ble_eq_true rfl)⟩ ⟨(Nat.le_of_ble_eq_true rfl), (Nat.le_of_ble_eq_true rfl)⟩ (fun u1 H locs _ hP hD hS => ?_)
  have hP : va_P g.1 vwCl [(h0, .inr (12, [.int 0, .ref a1, .ref a2, .ref a3, .ref a4, .int 0, .ref a6, .int 0, .int 0, .int 0, .int 0, .int 0, .int 0, .int (-1), .ref a14, .ref a15, .int 0, .int 0, .int 0, .ref a19, .ref a20, .int 0, .int 0, .ref a23, .ref a24, .ref a25, .ref a26, .ref a27, .ref a28])), (a1, .inl (g.2 0, 225, .inl (fun _ => 0)))] H := hP
  have hD : va_D A [(h0, .inr (12, [.int 0, .ref a1, .ref a2, .ref a3, .ref a4, .int 0, .ref a6, .int 0, .int 0, .int 0, .int 0, .int 0, .int 0, .int (-1), .ref a14, .ref a15, .int 0, .int 0, .int 0, .ref a19, .ref a20, .int 0, .int 0, .ref a23, .ref a24, .ref a25, .ref a26, .ref a27, .ref a28])), (a1, .inl (g.2 0, 225, .inl (fun _ => 0)))] := hD
  refine W.eq (g2 := F0 m 7 ls [.int 0, .int p1, .ref h0]) rfl ?_
  refine lv_if_eq (tgt := 33) hx hb dX12_hope_7 (by decide) (fun _ => ?_) (fun h => absurd h (by decide))
  refine lv_iconst (v := 0) hx hb dX12_hope_33 (by decide) ?_
  refine call_V (As := [.int p1, .int 0]) (rest := []) (wr := []) FC hKn (c_X12_asksWeek l g h0 a1 a2 a3 a4 a6 a14 a15 a19 a20 a23 a24 a25 a26 a27 a28 p1 0) m_yX12_asksWeek b_366 (ci := 12) rfl rfl rfl hP hD hS hA [0, 1] [] rfl (by decide) rfl (by decide) (by decide) rfl hl.1 rfl (Nat.le_of_ble_eq_true rfl) dX12_hope_34 ⟨(Nat.le_of_ble_eq_true rfl), (Nat.le_of_ble_eq_true rfl)⟩ ⟨(Nat.le_of_ble_eq_true rfl), (Nat.le_of_ble_eq_true rfl)⟩ (fun u2 H locs _ hP hD hS => ?_)
  have hP : va_P g.1 vwCl [(h0, .inr (12, [.int 0, .ref a1, .ref a2, .ref a3, .ref a4, .int 0, .ref a6, .int 0, .int 0, .int 0, .int 0, .int 0, .int 0, .int (-1), .ref a14, .ref a15, .int 0, .int 0, .int 0, .ref a19, .ref a20, .int 0, .int 0, .ref a23, .ref a24, .ref a25, .ref a26, .ref a27, .ref a28])), (a1, .inl (g.2 0, 225, .inl (fun _ => 0)))] H := hP
  have hD : va_D A [(h0, .inr (12, [.int 0, .ref a1, .ref a2, .ref a3, .ref a4, .int 0, .ref a6, .int 0, .int 0, .int 0, .int 0, .int 0, .int 0, .int (-1), .ref a14, .ref a15, .int 0, .int 0, .int 0, .ref a19, .ref a20, .int 0, .int 0, .ref a23, .ref a24, .ref a25, .ref a26, .ref a27, .ref a28])), (a1, .inl (g.2 0, 225, .inl (fun _ => 0)))] := hD
  refine W.eq (g2 := F0 m 37 ls [.int (-2)]) rfl ?_
  refine lv_istore (lv' := [(5, .int (-2)), (0, .ref h0), (1, .int p1), (2, .int p2), (3, .int p3), (4, .int p4)]) hx hb dX12_hope_37 hl (by decide) rfl (fun ls hl => ?_)
  refine lv_iload hx hb dX12_hope_39 (lv_at hl 0 rfl) ?_
  refine lv_if_ge (tgt := 47) hx hb dX12_hope_41 (by decide) (fun h => absurd h (by decide)) (fun _ => ?_)
  refine lv_iload hx hb dX12_hope_44 (lv_at hl 0 rfl) ?_
  exact rt_i FX () rfl trivial (hP.sub [0, 1] rfl) (hD.sub [0, 1] (by decide) rfl) hS (Nat.le_of_ble_eq_true rfl) (Nat.le_of_ble_eq_true rfl) dX12_hope_46
set_option maxRecDepth 100000 in
set_option maxHeartbeats 4000000 in
theorem c_X12_fewest (l : Launch) (g : GG) (h0 : Nat) (a1 : Nat) (a2 : Nat) (a3 : Nat) (a4 : Nat) (a6 : Nat) (a14 : Nat) (a15 : Nat) (a19 : Nat) (a20 : Nat) (a23 : Nat) (a24 : Nat) (a25 : Nat) (a26 : Nat) (a27 : Nat) (a28 : Nat) : Ct l g yX12_fewest cX12_fewest 1 (some .int) { frames := 1, cells := 0, slots := 0, locals := 20 } [.ref h0] [(h0, .inr (12, [.int 0, .ref a1, .ref a2, .ref a3, .ref a4, .int 0, .ref a6, .int 0, .int 0, .int 0, .int 0, .int 0, .int 0, .int (-1), .ref a14, .ref a15, .int 0, .int 0, .int 0, .ref a19, .ref a20, .int 0, .int 0, .ref a23, .ref a24, .ref a25, .ref a26, .ref a27, .ref a28])), (a1, .inl (g.2 0, 225, .inl (fun _ => 0)))] (S := Unit) (fun _ => some (.int (-2))) (fun _ => True) (fun u => [(h0, .inr (12, [.int 0, .ref a1, .ref a2, .ref a3, .ref a4, .int 0, .ref a6, .int 0, .int 0, .int 0, .int 0, .int 0, .int 0, .int (-1), .ref a14, .ref a15, .int 0, .int 0, .int 0, .ref a19, .ref a20, .int 0, .int 0, .ref a23, .ref a24, .ref a25, .ref a26, .ref a27, .ref a28])), (a1, .inl (g.2 0, 225, .inl (fun _ => 0)))]) := by
  refine Ct.of (by decide) (Nat.le_of_ble_eq_true rfl) ?_
  intro p e s m below meth c A ls FX hP hD hS hl
  obtain ⟨FC, hr, hlk, hKn, hA, hnm⟩ := id FX
  have FC : CallFix p m c cX12_fewest 1 s _ BIG RX12 := FC
  obtain ⟨hx, hb, hml, hown, hB⟩ := id FC
  have hl : lv_has ls 1 [(0, .ref h0)] := hl
  refine lv_aload_n hx hb dX12_fewest_0 rfl (lv_at hl 0 rfl) ?_
  refine call_V (As := []) (rest := []) (wr := []) FC hKn (c_X12_isDesk l g h0 a1 a2 a3 a4 a6 a14 a15 a19 a20 a23 a24 a25 a26 a27 a28) m_yX12_isDesk b_363 (ci := 12) rfl rfl rfl hP hD hS hA [0, 1] [] rfl (by decide) rfl (by decide) (by decide) rfl hl.1 rfl (Nat.le_of_ble_eq_true rfl) dX12_fewest_1 ⟨(Nat.le_of_ble_eq_true rfl), (Nat.le_of_ble_eq_true rfl)⟩ ⟨(Nat.le_of_ble_eq_true rfl), (Nat.le_of_ble_eq_true rfl)⟩ (fun u1 H locs _ hP hD hS => ?_)
  have hP : va_P g.1 vwCl [(h0, .inr (12, [.int 0, .ref a1, .ref a2, .ref a3, .ref a4, .int 0, .ref a6, .int 0, .int 0, .int 0, .int 0, .int 0, .int 0, .int (-1), .ref a14, .ref a15, .int 0, .int 0, .int 0, .ref a19, .ref a20, .int 0, .int 0, .ref a23, .ref a24, .ref a25, .ref a26, .ref a27, .ref a28])), (a1, .inl (g.2 0, 225, .inl (fun _ => 0)))] H := hP
  have hD : va_D A [(h0, .inr (12, [.int 0, .ref a1, .ref a2, .ref a3, .ref a4, .int 0, .ref a6, .int 0, .int 0, .int 0, .int 0, .int 0, .int 0, .int (-1), .ref a14, .ref a15, .int 0, .int 0, .int 0, .ref a19, .ref a20, .int 0, .int 0, .ref a23, .ref a24, .ref a25, .ref a26, .ref a27, .ref a28])), (a1, .inl (g.2 0, 225, .inl (fun _ => 0)))] := hD
  refine W.eq (g2 := F0 m 4 ls [.int 0]) rfl ?_
  refine lv_if_eq (tgt := 16) hx hb dX12_fewest_4 (by decide) (fun _ => ?_) (fun h => absurd h (by decide))
  refine lv_bipush (v := -2) hx hb dX12_fewest_16 (by decide) ?_
  exact rt_i FX () rfl trivial (hP.sub [0, 1] rfl) (hD.sub [0, 1] (by decide) rfl) hS (Nat.le_of_ble_eq_true rfl) (Nat.le_of_ble_eq_true rfl) dX12_fewest_18
set_option maxRecDepth 100000 in
set_option maxHeartbeats 4000000 in
theorem c_X12_once (l : Launch) (g : GG) (h0 : Nat) (a1 : Nat) (a2 : Nat) (a3 : Nat) (a4 : Nat) (a6 : Nat) (a14 : Nat) (a15 : Nat) (a19 : Nat) (a20 : Nat) (a23 : Nat) (a24 : Nat) (a25 : Nat) (a26 : Nat) (a27 : Nat) (a28 : Nat) (p1 : Int32) : Ct l g yX12_once cX12_once 2 (some .int) { frames := 2, cells := 0, slots := 0, locals := 46 } [.ref h0, .int p1] [(h0, .inr (12, [.int 0, .ref a1, .ref a2, .ref a3, .ref a4, .int 0, .ref a6, .int 0, .int 0, .int 0, .int 0, .int 0, .int 0, .int (-1), .ref a14, .ref a15, .int 0, .int 0, .int 0, .ref a19, .ref a20, .int 0, .int 0, .ref a23, .ref a24, .ref a25, .ref a26, .ref a27, .ref a28])), (a1, .inl (g.2 0, 225, .inl (fun _ => 0)))] (S := Unit) (fun _ => some (.int (-2))) (fun _ => True) (fun u => [(h0, .inr (12, [.int 0, .ref a1, .ref a2, .ref a3, .ref a4, .int 0, .ref a6, .int 0, .int 0, .int 0, .int 0, .int 0, .int 0, .int (-1), .ref a14, .ref a15, .int 0, .int 0, .int 0, .ref a19, .ref a20, .int 0, .int 0, .ref a23, .ref a24, .ref a25, .ref a26, .ref a27, .ref a28])), (a1, .inl (g.2 0, 225, .inl (fun _ => 0)))]) := by
  refine Ct.of (by decide) (Nat.le_of_ble_eq_true rfl) ?_
  intro p e s m below meth c A ls FX hP hD hS hl
  obtain ⟨FC, hr, hlk, hKn, hA, hnm⟩ := id FX
  have FC : CallFix p m c cX12_once 2 s _ BIG RX12 := FC
  obtain ⟨hx, hb, hml, hown, hB⟩ := id FC
  have hl : lv_has ls 2 [(0, .ref h0), (1, .int p1)] := hl
  refine lv_aload_n hx hb dX12_once_0 rfl (lv_at hl 0 rfl) ?_
  refine lv_iload_n hx hb dX12_once_1 rfl (lv_at hl 1 rfl) ?_
  refine call_V (As := [.int p1]) (rest := []) (wr := []) FC hKn (c_X12_isHearer l g h0 a1 a2 a3 a4 a6 a14 a15 a19 a20 a23 a24 a25 a26 a27 a28 p1) m_yX12_isHearer b_365 (ci := 12) rfl rfl rfl hP hD hS hA [0, 1] [] rfl (by decide) rfl (by decide) (by decide) rfl hl.1 rfl (Nat.le_of_ble_eq_true rfl) dX12_once_2 ⟨(Nat.le_of_ble_eq_true rfl), (Nat.le_of_ble_eq_true rfl)⟩ ⟨(Nat.le_of_ble_eq_true rfl), (Nat.le_of_ble_eq_true rfl)⟩ (fun u1 H locs _ hP hD hS => ?_)
  have hP : va_P g.1 vwCl [(h0, .inr (12, [.int 0, .ref a1, .ref a2, .ref a3, .ref a4, .int 0, .ref a6, .int 0, .int 0, .int 0, .int 0, .int 0, .int 0, .int (-1), .ref a14, .ref a15, .int 0, .int 0, .int 0, .ref a19, .ref a20, .int 0, .int 0, .ref a23, .ref a24, .ref a25, .ref a26, .ref a27, .ref a28])), (a1, .inl (g.2 0, 225, .inl (fun _ => 0)))] H := hP
  have hD : va_D A [(h0, .inr (12, [.int 0, .ref a1, .ref a2, .ref a3, .ref a4, .int 0, .ref a6, .int 0, .int 0, .int 0, .int 0, .int 0, .int 0, .int (-1), .ref a14, .ref a15, .int 0, .int 0, .int 0, .ref a19, .ref a20, .int 0, .int 0, .ref a23, .ref a24, .ref a25, .ref a26, .ref a27, .ref a28])), (a1, .inl (g.2 0, 225, .inl (fun _ => 0)))] := hD
  refine W.eq (g2 := F0 m 5 ls [.int 0]) rfl ?_
  refine lv_if_eq (tgt := 24) hx hb dX12_once_5 (by decide) (fun _ => ?_) (fun h => absurd h (by decide))
  refine lv_bipush (v := -2) hx hb dX12_once_24 (by decide) ?_
  exact rt_i FX () rfl trivial (hP.sub [0, 1] rfl) (hD.sub [0, 1] (by decide) rfl) hS (Nat.le_of_ble_eq_true rfl) (Nat.le_of_ble_eq_true rfl) dX12_once_26
set_option maxRecDepth 100000 in
set_option maxHeartbeats 4000000 in
theorem c_X12_late (l : Launch) (g : GG) (h0 : Nat) (a1 : Nat) (a2 : Nat) (a3 : Nat) (a4 : Nat) (a6 : Nat) (a14 : Nat) (a15 : Nat) (a19 : Nat) (a20 : Nat) (a23 : Nat) (a24 : Nat) (a25 : Nat) (a26 : Nat) (a27 : Nat) (a28 : Nat) (p1 : Int32) (p2 : Int32) : Ct l g yX12_late cX12_late 5 (some .int) { frames := 2, cells := 0, slots := 0, locals := 46 } [.ref h0, .int p1, .int p2] [(h0, .inr (12, [.int 0, .ref a1, .ref a2, .ref a3, .ref a4, .int 0, .ref a6, .int 0, .int 0, .int 0, .int 0, .int 0, .int 0, .int (-1), .ref a14, .ref a15, .int 0, .int 0, .int 0, .ref a19, .ref a20, .int 0, .int 0, .ref a23, .ref a24, .ref a25, .ref a26, .ref a27, .ref a28])), (a1, .inl (g.2 0, 225, .inl (fun _ => 0)))] (S := Unit) (fun _ => some (.int (-2))) (fun _ => True) (fun u => [(h0, .inr (12, [.int 0, .ref a1, .ref a2, .ref a3, .ref a4, .int 0, .ref a6, .int 0, .int 0, .int 0, .int 0, .int 0, .int 0, .int (-1), .ref a14, .ref a15, .int 0, .int 0, .int 0, .ref a19, .ref a20, .int 0, .int 0, .ref a23, .ref a24, .ref a25, .ref a26, .ref a27, .ref a28])), (a1, .inl (g.2 0, 225, .inl (fun _ => 0)))]) := by
  refine Ct.of (by decide) (Nat.le_of_ble_eq_true rfl) ?_
  intro p e s m below meth c A ls FX hP hD hS hl
  obtain ⟨FC, hr, hlk, hKn, hA, hnm⟩ := id FX
  have FC : CallFix p m c cX12_late 5 s _ BIG RX12 := FC
  obtain ⟨hx, hb, hml, hown, hB⟩ := id FC
  have hl : lv_has ls 5 [(0, .ref h0), (1, .int p1), (2, .int p2)] := hl
  refine lv_aload_n hx hb dX12_late_0 rfl (lv_at hl 0 rfl) ?_
  refine lv_iload_n hx hb dX12_late_1 rfl (lv_at hl 1 rfl) ?_
  refine call_V (As := [.int p1]) (rest := []) (wr := []) FC hKn (c_X12_isHearer l g h0 a1 a2 a3 a4 a6 a14 a15 a19 a20 a23 a24 a25 a26 a27 a28 p1) m_yX12_isHearer b_365 (ci := 12) rfl rfl rfl hP hD hS hA [0, 1] [] rfl (by decide) rfl (by decide) (by decide) rfl hl.1 rfl (Nat.le_of_ble_eq_true rfl) dX12_late_2 ⟨(Nat.le_of_ble_eq_true rfl), (Nat.le_of_ble_eq_true rfl)⟩ ⟨(Nat.le_of_ble_eq_true rfl), (Nat.le_of_ble_eq_true rfl)⟩ (fun u1 H locs _ hP hD hS => ?_)
  have hP : va_P g.1 vwCl [(h0, .inr (12, [.int 0, .ref a1, .ref a2, .ref a3, .ref a4, .int 0, .ref a6, .int 0, .int 0, .int 0, .int 0, .int 0, .int 0, .int (-1), .ref a14, .ref a15, .int 0, .int 0, .int 0, .ref a19, .ref a20, .int 0, .int 0, .ref a23, .ref a24, .ref a25, .ref a26, .ref a27, .ref a28])), (a1, .inl (g.2 0, 225, .inl (fun _ => 0)))] H := hP
  have hD : va_D A [(h0, .inr (12, [.int 0, .ref a1, .ref a2, .ref a3, .ref a4, .int 0, .ref a6, .int 0, .int 0, .int 0, .int 0, .int 0, .int 0, .int (-1), .ref a14, .ref a15, .int 0, .int 0, .int 0, .ref a19, .ref a20, .int 0, .int 0, .ref a23, .ref a24, .ref a25, .ref a26, .ref a27, .ref a28])), (a1, .inl (g.2 0, 225, .inl (fun _ => 0)))] := hD
  refine W.eq (g2 := F0 m 5 ls [.int 0]) rfl ?_
  refine lv_if_eq (tgt := 12) hx hb dX12_late_5 (by decide) (fun _ => ?_) (fun h => absurd h (by decide))
  refine lv_bipush (v := -2) hx hb dX12_late_12 (by decide) ?_
  exact rt_i FX () rfl trivial (hP.sub [0, 1] rfl) (hD.sub [0, 1] (by decide) rfl) hS (Nat.le_of_ble_eq_true rfl) (Nat.le_of_ble_eq_true rfl) dX12_late_14
set_option maxRecDepth 100000 in
set_option maxHeartbeats 4000000 in
theorem c_X12_calm (l : Launch) (g : GG) (h0 : Nat) (a1 : Nat) (a2 : Nat) (a3 : Nat) (a4 : Nat) (a6 : Nat) (a14 : Nat) (a15 : Nat) (a19 : Nat) (a20 : Nat) (a23 : Nat) (a24 : Nat) (a25 : Nat) (a26 : Nat) (a27 : Nat) (a28 : Nat) (p1 : Int32) (p2 : Int32) : Ct l g yX12_calm cX12_calm 5 (some .int) { frames := 2, cells := 0, slots := 0, locals := 46 } [.ref h0, .int p1, .int p2] [(h0, .inr (12, [.int 0, .ref a1, .ref a2, .ref a3, .ref a4, .int 0, .ref a6, .int 0, .int 0, .int 0, .int 0, .int 0, .int 0, .int (-1), .ref a14, .ref a15, .int 0, .int 0, .int 0, .ref a19, .ref a20, .int 0, .int 0, .ref a23, .ref a24, .ref a25, .ref a26, .ref a27, .ref a28])), (a1, .inl (g.2 0, 225, .inl (fun _ => 0)))] (S := Unit) (fun _ => some (.int (-2))) (fun _ => True) (fun u => [(h0, .inr (12, [.int 0, .ref a1, .ref a2, .ref a3, .ref a4, .int 0, .ref a6, .int 0, .int 0, .int 0, .int 0, .int 0, .int 0, .int (-1), .ref a14, .ref a15, .int 0, .int 0, .int 0, .ref a19, .ref a20, .int 0, .int 0, .ref a23, .ref a24, .ref a25, .ref a26, .ref a27, .ref a28])), (a1, .inl (g.2 0, 225, .inl (fun _ => 0)))]) := by
  refine Ct.of (by decide) (Nat.le_of_ble_eq_true rfl) ?_
  intro p e s m below meth c A ls FX hP hD hS hl
  obtain ⟨FC, hr, hlk, hKn, hA, hnm⟩ := id FX
  have FC : CallFix p m c cX12_calm 5 s _ BIG RX12 := FC
  obtain ⟨hx, hb, hml, hown, hB⟩ := id FC
  have hl : lv_has ls 5 [(0, .ref h0), (1, .int p1), (2, .int p2)] := hl
  refine lv_aload_n hx hb dX12_calm_0 rfl (lv_at hl 0 rfl) ?_
  refine lv_iload_n hx hb dX12_calm_1 rfl (lv_at hl 1 rfl) ?_
  refine call_V (As := [.int p1]) (rest := []) (wr := []) FC hKn (c_X12_isHearer l g h0 a1 a2 a3 a4 a6 a14 a15 a19 a20 a23 a24 a25 a26 a27 a28 p1) m_yX12_isHearer b_365 (ci := 12) rfl rfl rfl hP hD hS hA [0, 1] [] rfl (by decide) rfl (by decide) (by decide) rfl hl.1 rfl (Nat.le_of_ble_eq_true rfl) dX12_calm_2 ⟨(Nat.le_of_ble_eq_true rfl), (Nat.le_of_ble_eq_true rfl)⟩ ⟨(Nat.le_of_ble_eq_true rfl), (Nat.le_of_ble_eq_true rfl)⟩ (fun u1 H locs _ hP hD hS => ?_)
  have hP : va_P g.1 vwCl [(h0, .inr (12, [.int 0, .ref a1, .ref a2, .ref a3, .ref a4, .int 0, .ref a6, .int 0, .int 0, .int 0, .int 0, .int 0, .int 0, .int (-1), .ref a14, .ref a15, .int 0, .int 0, .int 0, .ref a19, .ref a20, .int 0, .int 0, .ref a23, .ref a24, .ref a25, .ref a26, .ref a27, .ref a28])), (a1, .inl (g.2 0, 225, .inl (fun _ => 0)))] H := hP
  have hD : va_D A [(h0, .inr (12, [.int 0, .ref a1, .ref a2, .ref a3, .ref a4, .int 0, .ref a6, .int 0, .int 0, .int 0, .int 0, .int 0, .int 0, .int (-1), .ref a14, .ref a15, .int 0, .int 0, .int 0, .ref a19, .ref a20, .int 0, .int 0, .ref a23, .ref a24, .ref a25, .ref a26, .ref a27, .ref a28])), (a1, .inl (g.2 0, 225, .inl (fun _ => 0)))] := hD
  refine W.eq (g2 := F0 m 5 ls [.int 0]) rfl ?_
  refine lv_if_eq (tgt := 16) hx hb dX12_calm_5 (by decide) (fun _ => ?_) (fun h => absurd h (by decide))
  refine lv_bipush (v := -2) hx hb dX12_calm_16 (by decide) ?_
  exact rt_i FX () rfl trivial (hP.sub [0, 1] rfl) (hD.sub [0, 1] (by decide) rfl) hS (Nat.le_of_ble_eq_true rfl) (Nat.le_of_ble_eq_true rfl) dX12_calm_18
set_option maxRecDepth 100000 in
set_option maxHeartbeats 4000000 in
theorem c_X12_shock (l : Launch) (g : GG) (h0 : Nat) (a1 : Nat) (a2 : Nat) (a3 : Nat) (a4 : Nat) (a6 : Nat) (a14 : Nat) (a15 : Nat) (a19 : Nat) (a20 : Nat) (a23 : Nat) (a24 : Nat) (a25 : Nat) (a26 : Nat) (a27 : Nat) (a28 : Nat) (p1 : Int32) : Ct l g yX12_shock cX12_shock 4 (some .int) { frames := 2, cells := 0, slots := 0, locals := 46 } [.ref h0, .int p1] [(h0, .inr (12, [.int 0, .ref a1, .ref a2, .ref a3, .ref a4, .int 0, .ref a6, .int 0, .int 0, .int 0, .int 0, .int 0, .int 0, .int (-1), .ref a14, .ref a15, .int 0, .int 0, .int 0, .ref a19, .ref a20, .int 0, .int 0, .ref a23, .ref a24, .ref a25, .ref a26, .ref a27, .ref a28])), (a1, .inl (g.2 0, 225, .inl (fun _ => 0)))] (S := Unit) (fun _ => some (.int (-2))) (fun _ => True) (fun u => [(h0, .inr (12, [.int 0, .ref a1, .ref a2, .ref a3, .ref a4, .int 0, .ref a6, .int 0, .int 0, .int 0, .int 0, .int 0, .int 0, .int (-1), .ref a14, .ref a15, .int 0, .int 0, .int 0, .ref a19, .ref a20, .int 0, .int 0, .ref a23, .ref a24, .ref a25, .ref a26, .ref a27, .ref a28])), (a1, .inl (g.2 0, 225, .inl (fun _ => 0)))]) := by
  refine Ct.of (by decide) (Nat.le_of_ble_eq_true rfl) ?_
  intro p e s m below meth c A ls FX hP hD hS hl
  obtain ⟨FC, hr, hlk, hKn, hA, hnm⟩ := id FX
  have FC : CallFix p m c cX12_shock 4 s _ BIG RX12 := FC
  obtain ⟨hx, hb, hml, hown, hB⟩ := id FC
  have hl : lv_has ls 4 [(0, .ref h0), (1, .int p1)] := hl
  refine lv_aload_n hx hb dX12_shock_0 rfl (lv_at hl 0 rfl) ?_
  refine lv_iload_n hx hb dX12_shock_1 rfl (lv_at hl 1 rfl) ?_
  refine call_V (As := [.int p1]) (rest := []) (wr := []) FC hKn (c_X12_isHearer l g h0 a1 a2 a3 a4 a6 a14 a15 a19 a20 a23 a24 a25 a26 a27 a28 p1) m_yX12_isHearer b_365 (ci := 12) rfl rfl rfl hP hD hS hA [0, 1] [] rfl (by decide) rfl (by decide) (by decide) rfl hl.1 rfl (Nat.le_of_ble_eq_true rfl) dX12_shock_2 ⟨(Nat.le_of_ble_eq_true rfl), (Nat.le_of_ble_eq_true rfl)⟩ ⟨(Nat.le_of_ble_eq_true rfl), (Nat.le_of_ble_eq_true rfl)⟩ (fun u1 H locs _ hP hD hS => ?_)
  have hP : va_P g.1 vwCl [(h0, .inr (12, [.int 0, .ref a1, .ref a2, .ref a3, .ref a4, .int 0, .ref a6, .int 0, .int 0, .int 0, .int 0, .int 0, .int 0, .int (-1), .ref a14, .ref a15, .int 0, .int 0, .int 0, .ref a19, .ref a20, .int 0, .int 0, .ref a23, .ref a24, .ref a25, .ref a26, .ref a27, .ref a28])), (a1, .inl (g.2 0, 225, .inl (fun _ => 0)))] H := hP
  have hD : va_D A [(h0, .inr (12, [.int 0, .ref a1, .ref a2, .ref a3, .ref a4, .int 0, .ref a6, .int 0, .int 0, .int 0, .int 0, .int 0, .int 0, .int (-1), .ref a14, .ref a15, .int 0, .int 0, .int 0, .ref a19, .ref a20, .int 0, .int 0, .ref a23, .ref a24, .ref a25, .ref a26, .ref a27, .ref a28])), (a1, .inl (g.2 0, 225, .inl (fun _ => 0)))] := hD
  refine W.eq (g2 := F0 m 5 ls [.int 0]) rfl ?_
  refine lv_if_ne (tgt := 11) hx hb dX12_shock_5 (by decide) (fun h => absurd h (by decide)) (fun _ => ?_)
  refine lv_bipush (v := -2) hx hb dX12_shock_8 (by decide) ?_
  exact rt_i FX () rfl trivial (hP.sub [0, 1] rfl) (hD.sub [0, 1] (by decide) rfl) hS (Nat.le_of_ble_eq_true rfl) (Nat.le_of_ble_eq_true rfl) dX12_shock_10
set_option maxRecDepth 100000 in
set_option maxHeartbeats 4000000 in
theorem c_X12_unsaid (l : Launch) (g : GG) (h0 : Nat) (a1 : Nat) (a2 : Nat) (a3 : Nat) (a4 : Nat) (a6 : Nat) (a14 : Nat) (a15 : Nat) (a19 : Nat) (a20 : Nat) (a23 : Nat) (a24 : Nat) (a25 : Nat) (a26 : Nat) (a27 : Nat) (a28 : Nat) : Ct l g yX12_unsaid cX12_unsaid 5 (some .int) { frames := 1, cells := 0, slots := 0, locals := 20 } [.ref h0] [(h0, .inr (12, [.int 0, .ref a1, .ref a2, .ref a3, .ref a4, .int 0, .ref a6, .int 0, .int 0, .int 0, .int 0, .int 0, .int 0, .int (-1), .ref a14, .ref a15, .int 0, .int 0, .int 0, .ref a19, .ref a20, .int 0, .int 0, .ref a23, .ref a24, .ref a25, .ref a26, .ref a27, .ref a28])), (a1, .inl (g.2 0, 225, .inl (fun _ => 0)))] (S := Unit) (fun _ => some (.int (-2))) (fun _ => True) (fun u => [(h0, .inr (12, [.int 0, .ref a1, .ref a2, .ref a3, .ref a4, .int 0, .ref a6, .int 0, .int 0, .int 0, .int 0, .int 0, .int 0, .int (-1), .ref a14, .ref a15, .int 0, .int 0, .int 0, .ref a19, .ref a20, .int 0, .int 0, .ref a23, .ref a24, .ref a25, .ref a26, .ref a27, .ref a28])), (a1, .inl (g.2 0, 225, .inl (fun _ => 0)))]) := by
  refine Ct.of (by decide) (Nat.le_of_ble_eq_true rfl) ?_
  intro p e s m below meth c A ls FX hP hD hS hl
  obtain ⟨FC, hr, hlk, hKn, hA, hnm⟩ := id FX
  have FC : CallFix p m c cX12_unsaid 5 s _ BIG RX12 := FC
  obtain ⟨hx, hb, hml, hown, hB⟩ := id FC
  have hl : lv_has ls 5 [(0, .ref h0)] := hl
  refine lv_aload_n hx hb dX12_unsaid_0 rfl (lv_at hl 0 rfl) ?_
  refine call_V (As := []) (rest := []) (wr := []) FC hKn (c_X12_isDesk l g h0 a1 a2 a3 a4 a6 a14 a15 a19 a20 a23 a24 a25 a26 a27 a28) m_yX12_isDesk b_363 (ci := 12) rfl rfl rfl hP hD hS hA [0, 1] [] rfl (by decide) rfl (by decide) (by decide) rfl hl.1 rfl (Nat.le_of_ble_eq_true rfl) dX12_unsaid_1 ⟨(Nat.le_of_ble_eq_true rfl), (Nat.le_of_ble_eq_true rfl)⟩ ⟨(Nat.le_of_ble_eq_true rfl), (Nat.le_of_ble_eq_true rfl)⟩ (fun u1 H locs _ hP hD hS => ?_)
  have hP : va_P g.1 vwCl [(h0, .inr (12, [.int 0, .ref a1, .ref a2, .ref a3, .ref a4, .int 0, .ref a6, .int 0, .int 0, .int 0, .int 0, .int 0, .int 0, .int (-1), .ref a14, .ref a15, .int 0, .int 0, .int 0, .ref a19, .ref a20, .int 0, .int 0, .ref a23, .ref a24, .ref a25, .ref a26, .ref a27, .ref a28])), (a1, .inl (g.2 0, 225, .inl (fun _ => 0)))] H := hP
  have hD : va_D A [(h0, .inr (12, [.int 0, .ref a1, .ref a2, .ref a3, .ref a4, .int 0, .ref a6, .int 0, .int 0, .int 0, .int 0, .int 0, .int 0, .int (-1), .ref a14, .ref a15, .int 0, .int 0, .int 0, .ref a19, .ref a20, .int 0, .int 0, .ref a23, .ref a24, .ref a25, .ref a26, .ref a27, .ref a28])), (a1, .inl (g.2 0, 225, .inl (fun _ => 0)))] := hD
  refine W.eq (g2 := F0 m 4 ls [.int 0]) rfl ?_
  refine lv_if_ne (tgt := 10) hx hb dX12_unsaid_4 (by decide) (fun h => absurd h (by decide)) (fun _ => ?_)
  refine lv_bipush (v := -2) hx hb dX12_unsaid_7 (by decide) ?_
  exact rt_i FX () rfl trivial (hP.sub [0, 1] rfl) (hD.sub [0, 1] (by decide) rfl) hS (Nat.le_of_ble_eq_true rfl) (Nat.le_of_ble_eq_true rfl) dX12_unsaid_9
set_option maxRecDepth 100000 in
set_option maxHeartbeats 4000000 in
theorem c_X12_idle (l : Launch) (g : GG) (h0 : Nat) (a1 : Nat) (a2 : Nat) (a3 : Nat) (a4 : Nat) (a6 : Nat) (a14 : Nat) (a15 : Nat) (a19 : Nat) (a20 : Nat) (a23 : Nat) (a24 : Nat) (a25 : Nat) (a26 : Nat) (a27 : Nat) (a28 : Nat) : Ct l g yX12_idle cX12_idle 5 (some .int) { frames := 1, cells := 0, slots := 0, locals := 20 } [.ref h0] [(h0, .inr (12, [.int 0, .ref a1, .ref a2, .ref a3, .ref a4, .int 0, .ref a6, .int 0, .int 0, .int 0, .int 0, .int 0, .int 0, .int (-1), .ref a14, .ref a15, .int 0, .int 0, .int 0, .ref a19, .ref a20, .int 0, .int 0, .ref a23, .ref a24, .ref a25, .ref a26, .ref a27, .ref a28])), (a1, .inl (g.2 0, 225, .inl (fun _ => 0)))] (S := Unit) (fun _ => some (.int (-2))) (fun _ => True) (fun u => [(h0, .inr (12, [.int 0, .ref a1, .ref a2, .ref a3, .ref a4, .int 0, .ref a6, .int 0, .int 0, .int 0, .int 0, .int 0, .int 0, .int (-1), .ref a14, .ref a15, .int 0, .int 0, .int 0, .ref a19, .ref a20, .int 0, .int 0, .ref a23, .ref a24, .ref a25, .ref a26, .ref a27, .ref a28])), (a1, .inl (g.2 0, 225, .inl (fun _ => 0)))]) := by
  refine Ct.of (by decide) (Nat.le_of_ble_eq_true rfl) ?_
  intro p e s m below meth c A ls FX hP hD hS hl
  obtain ⟨FC, hr, hlk, hKn, hA, hnm⟩ := id FX
  have FC : CallFix p m c cX12_idle 5 s _ BIG RX12 := FC
  obtain ⟨hx, hb, hml, hown, hB⟩ := id FC
  have hl : lv_has ls 5 [(0, .ref h0)] := hl
  refine lv_aload_n hx hb dX12_idle_0 rfl (lv_at hl 0 rfl) ?_
  refine call_V (As := []) (rest := []) (wr := []) FC hKn (c_X12_isDesk l g h0 a1 a2 a3 a4 a6 a14 a15 a19 a20 a23 a24 a25 a26 a27 a28) m_yX12_isDesk b_363 (ci := 12) rfl rfl rfl hP hD hS hA [0, 1] [] rfl (by decide) rfl (by decide) (by decide) rfl hl.1 rfl (Nat.le_of_ble_eq_true rfl) dX12_idle_1 ⟨(Nat.le_of_ble_eq_true rfl), (Nat.le_of_ble_eq_true rfl)⟩ ⟨(Nat.le_of_ble_eq_true rfl), (Nat.le_of_ble_eq_true rfl)⟩ (fun u1 H locs _ hP hD hS => ?_)
  have hP : va_P g.1 vwCl [(h0, .inr (12, [.int 0, .ref a1, .ref a2, .ref a3, .ref a4, .int 0, .ref a6, .int 0, .int 0, .int 0, .int 0, .int 0, .int 0, .int (-1), .ref a14, .ref a15, .int 0, .int 0, .int 0, .ref a19, .ref a20, .int 0, .int 0, .ref a23, .ref a24, .ref a25, .ref a26, .ref a27, .ref a28])), (a1, .inl (g.2 0, 225, .inl (fun _ => 0)))] H := hP
  have hD : va_D A [(h0, .inr (12, [.int 0, .ref a1, .ref a2, .ref a3, .ref a4, .int 0, .ref a6, .int 0, .int 0, .int 0, .int 0, .int 0, .int 0, .int (-1), .ref a14, .ref a15, .int 0, .int 0, .int 0, .ref a19, .ref a20, .int 0, .int 0, .ref a23, .ref a24, .ref a25, .ref a26, .ref a27, .ref a28])), (a1, .inl (g.2 0, 225, .inl (fun _ => 0)))] := hD
  refine W.eq (g2 := F0 m 4 ls [.int 0]) rfl ?_
  refine lv_if_ne (tgt := 10) hx hb dX12_idle_4 (by decide) (fun h => absurd h (by decide)) (fun _ => ?_)
  refine lv_bipush (v := -2) hx hb dX12_idle_7 (by decide) ?_
  exact rt_i FX () rfl trivial (hP.sub [0, 1] rfl) (hD.sub [0, 1] (by decide) rfl) hS (Nat.le_of_ble_eq_true rfl) (Nat.le_of_ble_eq_true rfl) dX12_idle_9
set_option maxRecDepth 100000 in
set_option maxHeartbeats 4000000 in
theorem c_X12_enough (l : Launch) (g : GG) (h0 : Nat) (a1 : Nat) (a2 : Nat) (a3 : Nat) (a4 : Nat) (a6 : Nat) (a14 : Nat) (a15 : Nat) (a19 : Nat) (a20 : Nat) (a23 : Nat) (a24 : Nat) (a25 : Nat) (a26 : Nat) (a27 : Nat) (a28 : Nat) (p1 : Int32) : Ct l g yX12_enough cX12_enough 4 (some .int) { frames := 2, cells := 0, slots := 0, locals := 46 } [.ref h0, .int p1] [(h0, .inr (12, [.int 0, .ref a1, .ref a2, .ref a3, .ref a4, .int 0, .ref a6, .int 0, .int 0, .int 0, .int 0, .int 0, .int 0, .int (-1), .ref a14, .ref a15, .int 0, .int 0, .int 0, .ref a19, .ref a20, .int 0, .int 0, .ref a23, .ref a24, .ref a25, .ref a26, .ref a27, .ref a28])), (a1, .inl (g.2 0, 225, .inl (fun _ => 0)))] (S := Unit) (fun _ => some (.int (-2))) (fun _ => True) (fun u => [(h0, .inr (12, [.int 0, .ref a1, .ref a2, .ref a3, .ref a4, .int 0, .ref a6, .int 0, .int 0, .int 0, .int 0, .int 0, .int 0, .int (-1), .ref a14, .ref a15, .int 0, .int 0, .int 0, .ref a19, .ref a20, .int 0, .int 0, .ref a23, .ref a24, .ref a25, .ref a26, .ref a27, .ref a28])), (a1, .inl (g.2 0, 225, .inl (fun _ => 0)))]) := by
  refine Ct.of (by decide) (Nat.le_of_ble_eq_true rfl) ?_
  intro p e s m below meth c A ls FX hP hD hS hl
  obtain ⟨FC, hr, hlk, hKn, hA, hnm⟩ := id FX
  have FC : CallFix p m c cX12_enough 4 s _ BIG RX12 := FC
  obtain ⟨hx, hb, hml, hown, hB⟩ := id FC
  have hl : lv_has ls 4 [(0, .ref h0), (1, .int p1)] := hl
  refine lv_aload_n hx hb dX12_enough_0 rfl (lv_at hl 0 rfl) ?_
  refine lv_iload_n hx hb dX12_enough_1 rfl (lv_at hl 1 rfl) ?_
  refine call_V (As := [.int p1]) (rest := []) (wr := []) FC hKn (c_X12_isHearer l g h0 a1 a2 a3 a4 a6 a14 a15 a19 a20 a23 a24 a25 a26 a27 a28 p1) m_yX12_isHearer b_365 (ci := 12) rfl rfl rfl hP hD hS hA [0, 1] [] rfl (by decide) rfl (by decide) (by decide) rfl hl.1 rfl (Nat.le_of_ble_eq_true rfl) dX12_enough_2 ⟨(Nat.le_of_ble_eq_true rfl), (Nat.le_of_ble_eq_true rfl)⟩ ⟨(Nat.le_of_ble_eq_true rfl), (Nat.le_of_ble_eq_true rfl)⟩ (fun u1 H locs _ hP hD hS => ?_)
  have hP : va_P g.1 vwCl [(h0, .inr (12, [.int 0, .ref a1, .ref a2, .ref a3, .ref a4, .int 0, .ref a6, .int 0, .int 0, .int 0, .int 0, .int 0, .int 0, .int (-1), .ref a14, .ref a15, .int 0, .int 0, .int 0, .ref a19, .ref a20, .int 0, .int 0, .ref a23, .ref a24, .ref a25, .ref a26, .ref a27, .ref a28])), (a1, .inl (g.2 0, 225, .inl (fun _ => 0)))] H := hP
  have hD : va_D A [(h0, .inr (12, [.int 0, .ref a1, .ref a2, .ref a3, .ref a4, .int 0, .ref a6, .int 0, .int 0, .int 0, .int 0, .int 0, .int 0, .int (-1), .ref a14, .ref a15, .int 0, .int 0, .int 0, .ref a19, .ref a20, .int 0, .int 0, .ref a23, .ref a24, .ref a25, .ref a26, .ref a27, .ref a28])), (a1, .inl (g.2 0, 225, .inl (fun _ => 0)))] := hD
  refine W.eq (g2 := F0 m 5 ls [.int 0]) rfl ?_
  refine lv_if_ne (tgt := 11) hx hb dX12_enough_5 (by decide) (fun h => absurd h (by decide)) (fun _ => ?_)
  refine lv_bipush (v := -2) hx hb dX12_enough_8 (by decide) ?_
  exact rt_i FX () rfl trivial (hP.sub [0, 1] rfl) (hD.sub [0, 1] (by decide) rfl) hS (Nat.le_of_ble_eq_true rfl) (Nat.le_of_ble_eq_true rfl) dX12_enough_10
set_option maxRecDepth 100000 in
set_option maxHeartbeats 4000000 in
theorem c_X12_risk (l : Launch) (g : GG) (h0 : Nat) (a1 : Nat) (a2 : Nat) (a3 : Nat) (a4 : Nat) (a6 : Nat) (a14 : Nat) (a15 : Nat) (a19 : Nat) (a20 : Nat) (a23 : Nat) (a24 : Nat) (a25 : Nat) (a26 : Nat) (a27 : Nat) (a28 : Nat) (p1 : Int32) : Ct l g yX12_risk cX12_risk 2 (some .int) { frames := 2, cells := 0, slots := 0, locals := 46 } [.ref h0, .int p1] [(h0, .inr (12, [.int 0, .ref a1, .ref a2, .ref a3, .ref a4, .int 0, .ref a6, .int 0, .int 0, .int 0, .int 0, .int 0, .int 0, .int (-1), .ref a14, .ref a15, .int 0, .int 0, .int 0, .ref a19, .ref a20, .int 0, .int 0, .ref a23, .ref a24, .ref a25, .ref a26, .ref a27, .ref a28])), (a1, .inl (g.2 0, 225, .inl (fun _ => 0)))] (S := Unit) (fun _ => some (.int (-2))) (fun _ => True) (fun u => [(h0, .inr (12, [.int 0, .ref a1, .ref a2, .ref a3, .ref a4, .int 0, .ref a6, .int 0, .int 0, .int 0, .int 0, .int 0, .int 0, .int (-1), .ref a14, .ref a15, .int 0, .int 0, .int 0, .ref a19, .ref a20, .int 0, .int 0, .ref a23, .ref a24, .ref a25, .ref a26, .ref a27, .ref a28])), (a1, .inl (g.2 0, 225, .inl (fun _ => 0)))]) := by
  refine Ct.of (by decide) (Nat.le_of_ble_eq_true rfl) ?_
  intro p e s m below meth c A ls FX hP hD hS hl
  obtain ⟨FC, hr, hlk, hKn, hA, hnm⟩ := id FX
  have FC : CallFix p m c cX12_risk 2 s _ BIG RX12 := FC
  obtain ⟨hx, hb, hml, hown, hB⟩ := id FC
  have hl : lv_has ls 2 [(0, .ref h0), (1, .int p1)] := hl
  refine lv_aload_n hx hb dX12_risk_0 rfl (lv_at hl 0 rfl) ?_
  refine lv_iload_n hx hb dX12_risk_1 rfl (lv_at hl 1 rfl) ?_
  refine call_V (As := [.int p1]) (rest := []) (wr := []) FC hKn (c_X12_isHearer l g h0 a1 a2 a3 a4 a6 a14 a15 a19 a20 a23 a24 a25 a26 a27 a28 p1) m_yX12_isHearer b_365 (ci := 12) rfl rfl rfl hP hD hS hA [0, 1] [] rfl (by decide) rfl (by decide) (by decide) rfl hl.1 rfl (Nat.le_of_ble_eq_true rfl) dX12_risk_2 ⟨(Nat.le_of_ble_eq_true rfl), (Nat.le_of_ble_eq_true rfl)⟩ ⟨(Nat.le_of_ble_eq_true rfl), (Nat.le_of_ble_eq_true rfl)⟩ (fun u1 H locs _ hP hD hS => ?_)
  have hP : va_P g.1 vwCl [(h0, .inr (12, [.int 0, .ref a1, .ref a2, .ref a3, .ref a4, .int 0, .ref a6, .int 0, .int 0, .int 0, .int 0, .int 0, .int 0, .int (-1), .ref a14, .ref a15, .int 0, .int 0, .int 0, .ref a19, .ref a20, .int 0, .int 0, .ref a23, .ref a24, .ref a25, .ref a26, .ref a27, .ref a28])), (a1, .inl (g.2 0, 225, .inl (fun _ => 0)))] H := hP
  have hD : va_D A [(h0, .inr (12, [.int 0, .ref a1, .ref a2, .ref a3, .ref a4, .int 0, .ref a6, .int 0, .int 0, .int 0, .int 0, .int 0, .int 0, .int (-1), .ref a14, .ref a15, .int 0, .int 0, .int 0, .ref a19, .ref a20, .int 0, .int 0, .ref a23, .ref a24, .ref a25, .ref a26, .ref a27, .ref a28])), (a1, .inl (g.2 0, 225, .inl (fun _ => 0)))] := hD
  refine W.eq (g2 := F0 m 5 ls [.int 0]) rfl ?_
  refine lv_if_eq (tgt := 17) hx hb dX12_risk_5 (by decide) (fun _ => ?_) (fun h => absurd h (by decide))
  refine lv_bipush (v := -2) hx hb dX12_risk_17 (by decide) ?_
  exact rt_i FX () rfl trivial (hP.sub [0, 1] rfl) (hD.sub [0, 1] (by decide) rfl) hS (Nat.le_of_ble_eq_true rfl) (Nat.le_of_ble_eq_true rfl) dX12_risk_19
set_option maxRecDepth 100000 in
set_option maxHeartbeats 4000000 in
theorem c_X12_now (l : Launch) (g : GG) (h0 : Nat) (a1 : Nat) (a2 : Nat) (a3 : Nat) (a4 : Nat) (a6 : Nat) (a14 : Nat) (a15 : Nat) (a19 : Nat) (a20 : Nat) (a23 : Nat) (a24 : Nat) (a25 : Nat) (a26 : Nat) (a27 : Nat) (a28 : Nat) (p1 : Int32) (p2 : Int32) (p3 : Int32) : Ct l g yX12_now cX12_now 4 (some .int) { frames := 2, cells := 0, slots := 0, locals := 46 } [.ref h0, .int p1, .int p2, .int p3] [(h0, .inr (12, [.int 0, .ref a1, .ref a2, .ref a3, .ref a4, .int 0, .ref a6, .int 0, .int 0, .int 0, .int 0, .int 0, .int 0, .int (-1), .ref a14, .ref a15, .int 0, .int 0, .int 0, .ref a19, .ref a20, .int 0, .int 0, .ref a23, .ref a24, .ref a25, .ref a26, .ref a27, .ref a28])), (a1, .inl (g.2 0, 225, .inl (fun _ => 0)))] (S := Unit) (fun _ => some (.int (-2))) (fun _ => True) (fun u => [(h0, .inr (12, [.int 0, .ref a1, .ref a2, .ref a3, .ref a4, .int 0, .ref a6, .int 0, .int 0, .int 0, .int 0, .int 0, .int 0, .int (-1), .ref a14, .ref a15, .int 0, .int 0, .int 0, .ref a19, .ref a20, .int 0, .int 0, .ref a23, .ref a24, .ref a25, .ref a26, .ref a27, .ref a28])), (a1, .inl (g.2 0, 225, .inl (fun _ => 0)))]) := by
  refine Ct.of (by decide) (Nat.le_of_ble_eq_true rfl) ?_
  intro p e s m below meth c A ls FX hP hD hS hl
  obtain ⟨FC, hr, hlk, hKn, hA, hnm⟩ := id FX
  have FC : CallFix p m c cX12_now 4 s _ BIG RX12 := FC
  obtain ⟨hx, hb, hml, hown, hB⟩ := id FC
  have hl : lv_has ls 4 [(0, .ref h0), (1, .int p1), (2, .int p2), (3, .int p3)] := hl
  refine lv_aload_n hx hb dX12_now_0 rfl (lv_at hl 0 rfl) ?_
  refine lv_iload_n hx hb dX12_now_1 rfl (lv_at hl 1 rfl) ?_
  refine call_V (As := [.int p1]) (rest := []) (wr := []) FC hKn (c_X12_isHearer l g h0 a1 a2 a3 a4 a6 a14 a15 a19 a20 a23 a24 a25 a26 a27 a28 p1) m_yX12_isHearer b_365 (ci := 12) rfl rfl rfl hP hD hS hA [0, 1] [] rfl (by decide) rfl (by decide) (by decide) rfl hl.1 rfl (Nat.le_of_ble_eq_true rfl) dX12_now_2 ⟨(Nat.le_of_ble_eq_true rfl), (Nat.le_of_ble_eq_true rfl)⟩ ⟨(Nat.le_of_ble_eq_true rfl), (Nat.le_of_ble_eq_true rfl)⟩ (fun u1 H locs _ hP hD hS => ?_)
  have hP : va_P g.1 vwCl [(h0, .inr (12, [.int 0, .ref a1, .ref a2, .ref a3, .ref a4, .int 0, .ref a6, .int 0, .int 0, .int 0, .int 0, .int 0, .int 0, .int (-1), .ref a14, .ref a15, .int 0, .int 0, .int 0, .ref a19, .ref a20, .int 0, .int 0, .ref a23, .ref a24, .ref a25, .ref a26, .ref a27, .ref a28])), (a1, .inl (g.2 0, 225, .inl (fun _ => 0)))] H := hP
  have hD : va_D A [(h0, .inr (12, [.int 0, .ref a1, .ref a2, .ref a3, .ref a4, .int 0, .ref a6, .int 0, .int 0, .int 0, .int 0, .int 0, .int 0, .int (-1), .ref a14, .ref a15, .int 0, .int 0, .int 0, .ref a19, .ref a20, .int 0, .int 0, .ref a23, .ref a24, .ref a25, .ref a26, .ref a27, .ref a28])), (a1, .inl (g.2 0, 225, .inl (fun _ => 0)))] := hD
  refine W.eq (g2 := F0 m 5 ls [.int 0]) rfl ?_
  refine lv_if_eq (tgt := 24) hx hb dX12_now_5 (by decide) (fun _ => ?_) (fun h => absurd h (by decide))
  refine lv_bipush (v := -2) hx hb dX12_now_24 (by decide) ?_
  exact rt_i FX () rfl trivial (hP.sub [0, 1] rfl) (hD.sub [0, 1] (by decide) rfl) hS (Nat.le_of_ble_eq_true rfl) (Nat.le_of_ble_eq_true rfl) dX12_now_26
set_option maxRecDepth 100000 in
set_option maxHeartbeats 4000000 in
theorem c_X12_soon (l : Launch) (g : GG) (h0 : Nat) (a1 : Nat) (a2 : Nat) (a3 : Nat) (a4 : Nat) (a6 : Nat) (a14 : Nat) (a15 : Nat) (a19 : Nat) (a20 : Nat) (a23 : Nat) (a24 : Nat) (a25 : Nat) (a26 : Nat) (a27 : Nat) (a28 : Nat) (p1 : Int32) (p2 : Int32) : Ct l g yX12_soon cX12_soon 5 (some .int) { frames := 2, cells := 0, slots := 0, locals := 46 } [.ref h0, .int p1, .int p2] [(h0, .inr (12, [.int 0, .ref a1, .ref a2, .ref a3, .ref a4, .int 0, .ref a6, .int 0, .int 0, .int 0, .int 0, .int 0, .int 0, .int (-1), .ref a14, .ref a15, .int 0, .int 0, .int 0, .ref a19, .ref a20, .int 0, .int 0, .ref a23, .ref a24, .ref a25, .ref a26, .ref a27, .ref a28])), (a1, .inl (g.2 0, 225, .inl (fun _ => 0)))] (S := Unit) (fun _ => some (.int (-2))) (fun _ => True) (fun u => [(h0, .inr (12, [.int 0, .ref a1, .ref a2, .ref a3, .ref a4, .int 0, .ref a6, .int 0, .int 0, .int 0, .int 0, .int 0, .int 0, .int (-1), .ref a14, .ref a15, .int 0, .int 0, .int 0, .ref a19, .ref a20, .int 0, .int 0, .ref a23, .ref a24, .ref a25, .ref a26, .ref a27, .ref a28])), (a1, .inl (g.2 0, 225, .inl (fun _ => 0)))]) := by
  refine Ct.of (by decide) (Nat.le_of_ble_eq_true rfl) ?_
  intro p e s m below meth c A ls FX hP hD hS hl
  obtain ⟨FC, hr, hlk, hKn, hA, hnm⟩ := id FX
  have FC : CallFix p m c cX12_soon 5 s _ BIG RX12 := FC
  obtain ⟨hx, hb, hml, hown, hB⟩ := id FC
  have hl : lv_has ls 5 [(0, .ref h0), (1, .int p1), (2, .int p2)] := hl
  refine lv_aload_n hx hb dX12_soon_0 rfl (lv_at hl 0 rfl) ?_
  refine lv_iload_n hx hb dX12_soon_1 rfl (lv_at hl 1 rfl) ?_
  refine call_V (As := [.int p1]) (rest := []) (wr := []) FC hKn (c_X12_isHearer l g h0 a1 a2 a3 a4 a6 a14 a15 a19 a20 a23 a24 a25 a26 a27 a28 p1) m_yX12_isHearer b_365 (ci := 12) rfl rfl rfl hP hD hS hA [0, 1] [] rfl (by decide) rfl (by decide) (by decide) rfl hl.1 rfl (Nat.le_of_ble_eq_true rfl) dX12_soon_2 ⟨(Nat.le_of_ble_eq_true rfl), (Nat.le_of_ble_eq_true rfl)⟩ ⟨(Nat.le_of_ble_eq_true rfl), (Nat.le_of_ble_eq_true rfl)⟩ (fun u1 H locs _ hP hD hS => ?_)
  have hP : va_P g.1 vwCl [(h0, .inr (12, [.int 0, .ref a1, .ref a2, .ref a3, .ref a4, .int 0, .ref a6, .int 0, .int 0, .int 0, .int 0, .int 0, .int 0, .int (-1), .ref a14, .ref a15, .int 0, .int 0, .int 0, .ref a19, .ref a20, .int 0, .int 0, .ref a23, .ref a24, .ref a25, .ref a26, .ref a27, .ref a28])), (a1, .inl (g.2 0, 225, .inl (fun _ => 0)))] H := hP
  have hD : va_D A [(h0, .inr (12, [.int 0, .ref a1, .ref a2, .ref a3, .ref a4, .int 0, .ref a6, .int 0, .int 0, .int 0, .int 0, .int 0, .int 0, .int (-1), .ref a14, .ref a15, .int 0, .int 0, .int 0, .ref a19, .ref a20, .int 0, .int 0, .ref a23, .ref a24, .ref a25, .ref a26, .ref a27, .ref a28])), (a1, .inl (g.2 0, 225, .inl (fun _ => 0)))] := hD
  refine W.eq (g2 := F0 m 5 ls [.int 0]) rfl ?_
  refine lv_if_eq (tgt := 18) hx hb dX12_soon_5 (by decide) (fun _ => ?_) (fun h => absurd h (by decide))
  refine lv_bipush (v := -2) hx hb dX12_soon_18 (by decide) ?_
  exact rt_i FX () rfl trivial (hP.sub [0, 1] rfl) (hD.sub [0, 1] (by decide) rfl) hS (Nat.le_of_ble_eq_true rfl) (Nat.le_of_ble_eq_true rfl) dX12_soon_20
set_option maxRecDepth 100000 in
set_option maxHeartbeats 4000000 in
theorem c_X12_suspects (l : Launch) (g : GG) (h0 : Nat) (a1 : Nat) (a2 : Nat) (a3 : Nat) (a4 : Nat) (a6 : Nat) (a14 : Nat) (a15 : Nat) (a19 : Nat) (a20 : Nat) (a23 : Nat) (a24 : Nat) (a25 : Nat) (a26 : Nat) (a27 : Nat) (a28 : Nat) (p1 : Int32) : Ct l g yX12_suspects cX12_suspects 3 (some .int) { frames := 3, cells := 0, slots := 0, locals := 68 } [.ref h0, .int p1] [(h0, .inr (12, [.int 0, .ref a1, .ref a2, .ref a3, .ref a4, .int 0, .ref a6, .int 0, .int 0, .int 0, .int 0, .int 0, .int 0, .int (-1), .ref a14, .ref a15, .int 0, .int 0, .int 0, .ref a19, .ref a20, .int 0, .int 0, .ref a23, .ref a24, .ref a25, .ref a26, .ref a27, .ref a28])), (a1, .inl (g.2 0, 225, .inl (fun _ => 0)))] (S := Unit) (fun _ => some (.int (-2))) (fun _ => True) (fun u => [(h0, .inr (12, [.int 0, .ref a1, .ref a2, .ref a3, .ref a4, .int 0, .ref a6, .int 0, .int 0, .int 0, .int 0, .int 0, .int 0, .int (-1), .ref a14, .ref a15, .int 0, .int 0, .int 0, .ref a19, .ref a20, .int 0, .int 0, .ref a23, .ref a24, .ref a25, .ref a26, .ref a27, .ref a28])), (a1, .inl (g.2 0, 225, .inl (fun _ => 0)))]) := by
  refine Ct.of (by decide) (Nat.le_of_ble_eq_true rfl) ?_
  intro p e s m below meth c A ls FX hP hD hS hl
  obtain ⟨FC, hr, hlk, hKn, hA, hnm⟩ := id FX
  have FC : CallFix p m c cX12_suspects 3 s _ BIG RX12 := FC
  obtain ⟨hx, hb, hml, hown, hB⟩ := id FC
  have hl : lv_has ls 3 [(0, .ref h0), (1, .int p1)] := hl
  refine lv_aload_n hx hb dX12_suspects_0 rfl (lv_at hl 0 rfl) ?_
  refine lv_iload_n hx hb dX12_suspects_1 rfl (lv_at hl 1 rfl) ?_
  refine lv_iconst (v := 1) hx hb dX12_suspects_2 (by decide) ?_
  refine call_V (As := [.int p1, .int 1]) (rest := []) (wr := []) FC hKn (c_X12_asksWeek l g h0 a1 a2 a3 a4 a6 a14 a15 a19 a20 a23 a24 a25 a26 a27 a28 p1 1) m_yX12_asksWeek b_366 (ci := 12) rfl rfl rfl hP hD hS hA [0, 1] [] rfl (by decide) rfl (by decide) (by decide) rfl hl.1 rfl (Nat.le_of_ble_eq_true rfl) dX12_suspects_3 ⟨(Nat.le_of_ble_eq_true rfl), (Nat.le_of_ble_eq_true rfl)⟩ ⟨(Nat.le_of_ble_eq_true rfl), (Nat.le_of_ble_eq_true rfl)⟩ (fun u1 H locs _ hP hD hS => ?_)
  have hP : va_P g.1 vwCl [(h0, .inr (12, [.int 0, .ref a1, .ref a2, .ref a3, .ref a4, .int 0, .ref a6, .int 0, .int 0, .int 0, .int 0, .int 0, .int 0, .int (-1), .ref a14, .ref a15, .int 0, .int 0, .int 0, .ref a19, .ref a20, .int 0, .int 0, .ref a23, .ref a24, .ref a25, .ref a26, .ref a27, .ref a28])), (a1, .inl (g.2 0, 225, .inl (fun _ => 0)))] H := hP
  have hD : va_D A [(h0, .inr (12, [.int 0, .ref a1, .ref a2, .ref a3, .ref a4, .int 0, .ref a6, .int 0, .int 0, .int 0, .int 0, .int 0, .int 0, .int (-1), .ref a14, .ref a15, .int 0, .int 0, .int 0, .ref a19, .ref a20, .int 0, .int 0, .ref a23, .ref a24, .ref a25, .ref a26, .ref a27, .ref a28])), (a1, .inl (g.2 0, 225, .inl (fun _ => 0)))] := hD
  refine W.eq (g2 := F0 m 6 ls [.int (-2)]) rfl ?_
  refine lv_istore_n (lv' := [(2, .int (-2)), (0, .ref h0), (1, .int p1)]) hx hb dX12_suspects_6 rfl hl (by decide) rfl (fun ls hl => ?_)
  refine lv_iload_n hx hb dX12_suspects_7 rfl (lv_at hl 0 rfl) ?_
  refine lv_if_ge (tgt := 15) hx hb dX12_suspects_8 (by decide) (fun h => absurd h (by decide)) (fun _ => ?_)
  refine lv_iload_n hx hb dX12_suspects_11 rfl (lv_at hl 0 rfl) ?_
  refine lv_goto (tgt := 26) hx hb dX12_suspects_12 (by decide) ?_
  exact rt_i FX () rfl trivial (hP.sub [0, 1] rfl) (hD.sub [0, 1] (by decide) rfl) hS (Nat.le_of_ble_eq_true rfl) (Nat.le_of_ble_eq_true rfl) dX12_suspects_26
set_option maxRecDepth 100000 in
set_option maxHeartbeats 4000000 in
theorem c_X12_knew (l : Launch) (g : GG) (h0 : Nat) (a1 : Nat) (a2 : Nat) (a3 : Nat) (a4 : Nat) (a6 : Nat) (a14 : Nat) (a15 : Nat) (a19 : Nat) (a20 : Nat) (a23 : Nat) (a24 : Nat) (a25 : Nat) (a26 : Nat) (a27 : Nat) (a28 : Nat) (p1 : Int32) (p2 : Int32) : Ct l g yX12_knew cX12_knew 4 (some .int) { frames := 3, cells := 0, slots := 0, locals := 68 } [.ref h0, .int p1, .int p2] [(h0, .inr (12, [.int 0, .ref a1, .ref a2, .ref a3, .ref a4, .int 0, .ref a6, .int 0, .int 0, .int 0, .int 0, .int 0, .int 0, .int (-1), .ref a14, .ref a15, .int 0, .int 0, .int 0, .ref a19, .ref a20, .int 0, .int 0, .ref a23, .ref a24, .ref a25, .ref a26, .ref a27, .ref a28])), (a1, .inl (g.2 0, 225, .inl (fun _ => 0)))] (S := Unit) (fun _ => some (.int (-2))) (fun _ => True) (fun u => [(h0, .inr (12, [.int 0, .ref a1, .ref a2, .ref a3, .ref a4, .int 0, .ref a6, .int 0, .int 0, .int 0, .int 0, .int 0, .int 0, .int (-1), .ref a14, .ref a15, .int 0, .int 0, .int 0, .ref a19, .ref a20, .int 0, .int 0, .ref a23, .ref a24, .ref a25, .ref a26, .ref a27, .ref a28])), (a1, .inl (g.2 0, 225, .inl (fun _ => 0)))]) := by
  refine Ct.of (by decide) (Nat.le_of_ble_eq_true rfl) ?_
  intro p e s m below meth c A ls FX hP hD hS hl
  obtain ⟨FC, hr, hlk, hKn, hA, hnm⟩ := id FX
  have FC : CallFix p m c cX12_knew 4 s _ BIG RX12 := FC
  obtain ⟨hx, hb, hml, hown, hB⟩ := id FC
  have hl : lv_has ls 4 [(0, .ref h0), (1, .int p1), (2, .int p2)] := hl
  refine lv_aload_n hx hb dX12_knew_0 rfl (lv_at hl 0 rfl) ?_
  refine lv_iload_n hx hb dX12_knew_1 rfl (lv_at hl 1 rfl) ?_
  refine lv_aload_n hx hb dX12_knew_2 rfl (lv_at hl 0 rfl) ?_
  refine lv_iload_n hx hb dX12_knew_3 rfl (lv_at hl 2 rfl) ?_
  refine call_V (As := [.int p2]) (rest := [.int p1, .ref h0]) (wr := []) FC hKn (c_X12_isHearer l g h0 a1 a2 a3 a4 a6 a14 a15 a19 a20 a23 a24 a25 a26 a27 a28 p2) m_yX12_isHearer b_365 (ci := 12) rfl rfl rfl hP hD hS hA [0, 1] [] rfl (by decide) rfl (by decide) (by decide) rfl hl.1 rfl (Nat.le_of_ble_eq_true rfl) dX12_knew_4 ⟨(Nat.le_of_ble_eq_true rfl), (Nat.le_of_ble_eq_true rfl)⟩ ⟨(Nat.le_of_ble_eq_true rfl), (Nat.le_of_ble_eq_true rfl)⟩ (fun u1 H locs _ hP hD hS => ?_)
  have hP : va_P g.1 vwCl [(h0, .inr (12, [.int 0, .ref a1, .ref a2, .ref a3, .ref a4, .int 0, .ref a6, .int 0, .int 0, .int 0, .int 0, .int 0, .int 0, .int (-1), .ref a14, .ref a15, .int 0, .int 0, .int 0, .ref a19, .ref a20, .int 0, .int 0, .ref a23, .ref a24, .ref a25, .ref a26, .ref a27, .ref a28])), (a1, .inl (g.2 0, 225, .inl (fun _ => 0)))] H := hP
  have hD : va_D A [(h0, .inr (12, [.int 0, .ref a1, .ref a2, .ref a3, .ref a4, .int 0, .ref a6, .int 0, .int 0, .int 0, .int 0, .int 0, .int 0, .int (-1), .ref a14, .ref a15, .int 0, .int 0, .int 0, .ref a19, .ref a20, .int 0, .int 0, .ref a23, .ref a24, .ref a25, .ref a26, .ref a27, .ref a28])), (a1, .inl (g.2 0, 225, .inl (fun _ => 0)))] := hD
  refine W.eq (g2 := F0 m 7 ls [.int 0, .int p1, .ref h0]) rfl ?_
  refine call_V (As := [.int p1, .int 0]) (rest := []) (wr := []) FC hKn (c_X12_asksWeek l g h0 a1 a2 a3 a4 a6 a14 a15 a19 a20 a23 a24 a25 a26 a27 a28 p1 0) m_yX12_asksWeek b_366 (ci := 12) rfl rfl rfl hP hD hS hA [0, 1] [] rfl (by decide) rfl (by decide) (by decide) rfl hl.1 rfl (Nat.le_of_ble_eq_true rfl) dX12_knew_7 ⟨(Nat.le_of_ble_eq_true rfl), (Nat.le_of_ble_eq_true rfl)⟩ ⟨(Nat.le_of_ble_eq_true rfl), (Nat.le_of_ble_eq_true rfl)⟩ (fun u2 H locs _ hP hD hS => ?_)
  have hP : va_P g.1 vwCl [(h0, .inr (12, [.int 0, .ref a1, .ref a2, .ref a3, .ref a4, .int 0, .ref a6, .int 0, .int 0, .int 0, .int 0, .int 0, .int 0, .int (-1), .ref a14, .ref a15, .int 0, .int 0, .int 0, .ref a19, .ref a20, .int 0, .int 0, .ref a23, .ref a24, .ref a25, .ref a26, .ref a27, .ref a28])), (a1, .inl (g.2 0, 225, .inl (fun _ => 0)))] H := hP
  have hD : va_D A [(h0, .inr (12, [.int 0, .ref a1, .ref a2, .ref a3, .ref a4, .int 0, .ref a6, .int 0, .int 0, .int 0, .int 0, .int 0, .int 0, .int (-1), .ref a14, .ref a15, .int 0, .int 0, .int 0, .ref a19, .ref a20, .int 0, .int 0, .ref a23, .ref a24, .ref a25, .ref a26, .ref a27, .ref a28])), (a1, .inl (g.2 0, 225, .inl (fun _ => 0)))] := hD
  refine W.eq (g2 := F0 m 10 ls [.int (-2)]) rfl ?_
  refine lv_istore_n (lv' := [(3, .int (-2)), (0, .ref h0), (1, .int p1), (2, .int p2)]) hx hb dX12_knew_10 rfl hl (by decide) rfl (fun ls hl => ?_)
  refine lv_iload_n hx hb dX12_knew_11 rfl (lv_at hl 0 rfl) ?_
  refine lv_if_ge (tgt := 19) hx hb dX12_knew_12 (by decide) (fun h => absurd h (by decide)) (fun _ => ?_)
  refine lv_iload_n hx hb dX12_knew_15 rfl (lv_at hl 0 rfl) ?_
  refine lv_goto (tgt := 25) hx hb dX12_knew_16 (by decide) ?_
  exact rt_i FX () rfl trivial (hP.sub [0, 1] rfl) (hD.sub [0, 1] (by decide) rfl) hS (Nat.le_of_ble_eq_true rfl) (Nat.le_of_ble_eq_true rfl) dX12_knew_25
set_option maxRecDepth 100000 in
set_option maxHeartbeats 4000000 in
theorem c_X12_reckoned (l : Launch) (g : GG) (h0 : Nat) (a1 : Nat) (a2 : Nat) (a3 : Nat) (a4 : Nat) (a6 : Nat) (a14 : Nat) (a15 : Nat) (a19 : Nat) (a20 : Nat) (a23 : Nat) (a24 : Nat) (a25 : Nat) (a26 : Nat) (a27 : Nat) (a28 : Nat) (p1 : Int32) (p2 : Int32) : Ct l g yX12_reckoned cX12_reckoned 10 (some .int) { frames := 3, cells := 0, slots := 0, locals := 68 } [.ref h0, .int p1, .int p2] [(h0, .inr (12, [.int 0, .ref a1, .ref a2, .ref a3, .ref a4, .int 0, .ref a6, .int 0, .int 0, .int 0, .int 0, .int 0, .int 0, .int (-1), .ref a14, .ref a15, .int 0, .int 0, .int 0, .ref a19, .ref a20, .int 0, .int 0, .ref a23, .ref a24, .ref a25, .ref a26, .ref a27, .ref a28])), (a1, .inl (g.2 0, 225, .inl (fun _ => 0)))] (S := Unit) (fun _ => some (.int (-2))) (fun _ => True) (fun u => [(h0, .inr (12, [.int 0, .ref a1, .ref a2, .ref a3, .ref a4, .int 0, .ref a6, .int 0, .int 0, .int 0, .int 0, .int 0, .int 0, .int (-1), .ref a14, .ref a15, .int 0, .int 0, .int 0, .ref a19, .ref a20, .int 0, .int 0, .ref a23, .ref a24, .ref a25, .ref a26, .ref a27, .ref a28])), (a1, .inl (g.2 0, 225, .inl (fun _ => 0)))]) := by
  refine Ct.of (by decide) (Nat.le_of_ble_eq_true rfl) ?_
  intro p e s m below meth c A ls FX hP hD hS hl
  obtain ⟨FC, hr, hlk, hKn, hA, hnm⟩ := id FX
  have FC : CallFix p m c cX12_reckoned 10 s _ BIG RX12 := FC
  obtain ⟨hx, hb, hml, hown, hB⟩ := id FC
  have hl : lv_has ls 10 [(0, .ref h0), (1, .int p1), (2, .int p2)] := hl
  refine lv_aload_n hx hb dX12_reckoned_0 rfl (lv_at hl 0 rfl) ?_
  refine lv_iload_n hx hb dX12_reckoned_1 rfl (lv_at hl 1 rfl) ?_
  refine lv_aload_n hx hb dX12_reckoned_2 rfl (lv_at hl 0 rfl) ?_
  refine lv_iload_n hx hb dX12_reckoned_3 rfl (lv_at hl 2 rfl) ?_
  refine call_V (As := [.int p2]) (rest := [.int p1, .ref h0]) (wr := []) FC hKn (c_X12_isHearer l g h0 a1 a2 a3 a4 a6 a14 a15 a19 a20 a23 a24 a25 a26 a27 a28 p2) m_yX12_isHearer b_365 (ci := 12) rfl rfl rfl hP hD hS hA [0, 1] [] rfl (by decide) rfl (by decide) (by decide) rfl hl.1 rfl (Nat.le_of_ble_eq_true rfl) dX12_reckoned_4 ⟨(Nat.le_of_ble_eq_true rfl), (Nat.le_of_ble_eq_true rfl)⟩ ⟨(Nat.le_of_ble_eq_true rfl), (Nat.le_of_ble_eq_true rfl)⟩ (fun u1 H locs _ hP hD hS => ?_)
  have hP : va_P g.1 vwCl [(h0, .inr (12, [.int 0, .ref a1, .ref a2, .ref a3, .ref a4, .int 0, .ref a6, .int 0, .int 0, .int 0, .int 0, .int 0, .int 0, .int (-1), .ref a14, .ref a15, .int 0, .int 0, .int 0, .ref a19, .ref a20, .int 0, .int 0, .ref a23, .ref a24, .ref a25, .ref a26, .ref a27, .ref a28])), (a1, .inl (g.2 0, 225, .inl (fun _ => 0)))] H := hP
  have hD : va_D A [(h0, .inr (12, [.int 0, .ref a1, .ref a2, .ref a3, .ref a4, .int 0, .ref a6, .int 0, .int 0, .int 0, .int 0, .int 0, .int 0, .int (-1), .ref a14, .ref a15, .int 0, .int 0, .int 0, .ref a19, .ref a20, .int 0, .int 0, .ref a23, .ref a24, .ref a25, .ref a26, .ref a27, .ref a28])), (a1, .inl (g.2 0, 225, .inl (fun _ => 0)))] := hD
  refine W.eq (g2 := F0 m 7 ls [.int 0, .int p1, .ref h0]) rfl ?_
  refine call_V (As := [.int p1, .int 0]) (rest := []) (wr := []) FC hKn (c_X12_asksWeek l g h0 a1 a2 a3 a4 a6 a14 a15 a19 a20 a23 a24 a25 a26 a27 a28 p1 0) m_yX12_asksWeek b_366 (ci := 12) rfl rfl rfl hP hD hS hA [0, 1] [] rfl (by decide) rfl (by decide) (by decide) rfl hl.1 rfl (Nat.le_of_ble_eq_true rfl) dX12_reckoned_7 ⟨(Nat.le_of_ble_eq_true rfl), (Nat.le_of_ble_eq_true rfl)⟩ ⟨(Nat.le_of_ble_eq_true rfl), (Nat.le_of_ble_eq_true rfl)⟩ (fun u2 H locs _ hP hD hS => ?_)
  have hP : va_P g.1 vwCl [(h0, .inr (12, [.int 0, .ref a1, .ref a2, .ref a3, .ref a4, .int 0, .ref a6, .int 0, .int 0, .int 0, .int 0, .int 0, .int 0, .int (-1), .ref a14, .ref a15, .int 0, .int 0, .int 0, .ref a19, .ref a20, .int 0, .int 0, .ref a23, .ref a24, .ref a25, .ref a26, .ref a27, .ref a28])), (a1, .inl (g.2 0, 225, .inl (fun _ => 0)))] H := hP
  have hD : va_D A [(h0, .inr (12, [.int 0, .ref a1, .ref a2, .ref a3, .ref a4, .int 0, .ref a6, .int 0, .int 0, .int 0, .int 0, .int 0, .int 0, .int (-1), .ref a14, .ref a15, .int 0, .int 0, .int 0, .ref a19, .ref a20, .int 0, .int 0, .ref a23, .ref a24, .ref a25, .ref a26, .ref a27, .ref a28])), (a1, .inl (g.2 0, 225, .inl (fun _ => 0)))] := hD
  refine W.eq (g2 := F0 m 10 ls [.int (-2)]) rfl ?_
  refine lv_istore_n (lv' := [(3, .int (-2)), (0, .ref h0), (1, .int p1), (2, .int p2)]) hx hb dX12_reckoned_10 rfl hl (by decide) rfl (fun ls hl => ?_)
  refine lv_iload_n hx hb dX12_reckoned_11 rfl (lv_at hl 0 rfl) ?_
  refine lv_if_ge (tgt := 17) hx hb dX12_reckoned_12 (by decide) (fun h => absurd h (by decide)) (fun _ => ?_)
  refine lv_iload_n hx hb dX12_reckoned_15 rfl (lv_at hl 0 rfl) ?_
  exact rt_i FX () rfl trivial (hP.sub [0, 1] rfl) (hD.sub [0, 1] (by decide) rfl) hS (Nat.le_of_ble_eq_true rfl) (Nat.le_of_ble_eq_true rfl) dX12_reckoned_16
set_option maxRecDepth 100000 in
set_option maxHeartbeats 4000000 in
theorem c_X12_ends (l : Launch) (g : GG) (h0 : Nat) (a1 : Nat) (a2 : Nat) (a3 : Nat) (a4 : Nat) (a6 : Nat) (a14 : Nat) (a15 : Nat) (a19 : Nat) (a20 : Nat) (a23 : Nat) (a24 : Nat) (a25 : Nat) (a26 : Nat) (a27 : Nat) (a28 : Nat) (p1 : Int32) : Ct l g yX12_ends cX12_ends 2 (some .int) { frames := 2, cells := 0, slots := 0, locals := 46 } [.ref h0, .int p1] [(h0, .inr (12, [.int 0, .ref a1, .ref a2, .ref a3, .ref a4, .int 0, .ref a6, .int 0, .int 0, .int 0, .int 0, .int 0, .int 0, .int (-1), .ref a14, .ref a15, .int 0, .int 0, .int 0, .ref a19, .ref a20, .int 0, .int 0, .ref a23, .ref a24, .ref a25, .ref a26, .ref a27, .ref a28])), (a1, .inl (g.2 0, 225, .inl (fun _ => 0)))] (S := Unit) (fun _ => some (.int (-2))) (fun _ => True) (fun u => [(h0, .inr (12, [.int 0, .ref a1, .ref a2, .ref a3, .ref a4, .int 0, .ref a6, .int 0, .int 0, .int 0, .int 0, .int 0, .int 0, .int (-1), .ref a14, .ref a15, .int 0, .int 0, .int 0, .ref a19, .ref a20, .int 0, .int 0, .ref a23, .ref a24, .ref a25, .ref a26, .ref a27, .ref a28])), (a1, .inl (g.2 0, 225, .inl (fun _ => 0)))]) := by
  refine Ct.of (by decide) (Nat.le_of_ble_eq_true rfl) ?_
  intro p e s m below meth c A ls FX hP hD hS hl
  obtain ⟨FC, hr, hlk, hKn, hA, hnm⟩ := id FX
  have FC : CallFix p m c cX12_ends 2 s _ BIG RX12 := FC
  obtain ⟨hx, hb, hml, hown, hB⟩ := id FC
  have hl : lv_has ls 2 [(0, .ref h0), (1, .int p1)] := hl
  refine lv_aload_n hx hb dX12_ends_0 rfl (lv_at hl 0 rfl) ?_
  refine lv_iload_n hx hb dX12_ends_1 rfl (lv_at hl 1 rfl) ?_
  refine call_V (As := [.int p1]) (rest := []) (wr := []) FC hKn (c_X12_isPlan l g h0 a1 a2 a3 a4 a6 a14 a15 a19 a20 a23 a24 a25 a26 a27 a28 p1) m_yX12_isPlan b_369 (ci := 12) rfl rfl rfl hP hD hS hA [0, 1] [] rfl (by decide) rfl (by decide) (by decide) rfl hl.1 rfl (Nat.le_of_ble_eq_true rfl) dX12_ends_2 ⟨(Nat.le_of_ble_eq_true rfl), (Nat.le_of_ble_eq_true rfl)⟩ ⟨(Nat.le_of_ble_eq_true rfl), (Nat.le_of_ble_eq_true rfl)⟩ (fun u1 H locs _ hP hD hS => ?_)
  have hP : va_P g.1 vwCl [(h0, .inr (12, [.int 0, .ref a1, .ref a2, .ref a3, .ref a4, .int 0, .ref a6, .int 0, .int 0, .int 0, .int 0, .int 0, .int 0, .int (-1), .ref a14, .ref a15, .int 0, .int 0, .int 0, .ref a19, .ref a20, .int 0, .int 0, .ref a23, .ref a24, .ref a25, .ref a26, .ref a27, .ref a28])), (a1, .inl (g.2 0, 225, .inl (fun _ => 0)))] H := hP
  have hD : va_D A [(h0, .inr (12, [.int 0, .ref a1, .ref a2, .ref a3, .ref a4, .int 0, .ref a6, .int 0, .int 0, .int 0, .int 0, .int 0, .int 0, .int (-1), .ref a14, .ref a15, .int 0, .int 0, .int 0, .ref a19, .ref a20, .int 0, .int 0, .ref a23, .ref a24, .ref a25, .ref a26, .ref a27, .ref a28])), (a1, .inl (g.2 0, 225, .inl (fun _ => 0)))] := hD
  refine W.eq (g2 := F0 m 5 ls [.int 0]) rfl ?_
  refine lv_if_eq (tgt := 16) hx hb dX12_ends_5 (by decide) (fun _ => ?_) (fun h => absurd h (by decide))
  refine lv_bipush (v := -2) hx hb dX12_ends_16 (by decide) ?_
  exact rt_i FX () rfl trivial (hP.sub [0, 1] rfl) (hD.sub [0, 1] (by decide) rfl) hS (Nat.le_of_ble_eq_true rfl) (Nat.le_of_ble_eq_true rfl) dX12_ends_18
set_option maxRecDepth 100000 in
set_option maxHeartbeats 4000000 in
theorem c_X12_joined (l : Launch) (g : GG) (h0 : Nat) (a1 : Nat) (a2 : Nat) (a3 : Nat) (a4 : Nat) (a6 : Nat) (a14 : Nat) (a15 : Nat) (a19 : Nat) (a20 : Nat) (a23 : Nat) (a24 : Nat) (a25 : Nat) (a26 : Nat) (a27 : Nat) (a28 : Nat) (p1 : Int32) : Ct l g yX12_joined cX12_joined 2 (some .int) { frames := 2, cells := 0, slots := 0, locals := 41 } [.ref h0, .int p1] [(h0, .inr (12, [.int 0, .ref a1, .ref a2, .ref a3, .ref a4, .int 0, .ref a6, .int 0, .int 0, .int 0, .int 0, .int 0, .int 0, .int (-1), .ref a14, .ref a15, .int 0, .int 0, .int 0, .ref a19, .ref a20, .int 0, .int 0, .ref a23, .ref a24, .ref a25, .ref a26, .ref a27, .ref a28])), (a1, .inl (g.2 0, 225, .inl (fun _ => 0)))] (S := Unit) (fun _ => some (.int (-2))) (fun _ => True) (fun u => [(h0, .inr (12, [.int 0, .ref a1, .ref a2, .ref a3, .ref a4, .int 0, .ref a6, .int 0, .int 0, .int 0, .int 0, .int 0, .int 0, .int (-1), .ref a14, .ref a15, .int 0, .int 0, .int 0, .ref a19, .ref a20, .int 0, .int 0, .ref a23, .ref a24, .ref a25, .ref a26, .ref a27, .ref a28])), (a1, .inl (g.2 0, 225, .inl (fun _ => 0)))]) := by
  refine Ct.of (by decide) (Nat.le_of_ble_eq_true rfl) ?_
  intro p e s m below meth c A ls FX hP hD hS hl
  obtain ⟨FC, hr, hlk, hKn, hA, hnm⟩ := id FX
  have FC : CallFix p m c cX12_joined 2 s _ BIG RX12 := FC
  obtain ⟨hx, hb, hml, hown, hB⟩ := id FC
  have hl : lv_has ls 2 [(0, .ref h0), (1, .int p1)] := hl
  refine lv_aload_n hx hb dX12_joined_0 rfl (lv_at hl 0 rfl) ?_
  refine lv_iload_n hx hb dX12_joined_1 rfl (lv_at hl 1 rfl) ?_
  refine call_V (As := [.int p1]) (rest := []) (wr := []) FC hKn (c_X12_areLetters l g h0 a1 a2 a3 a4 a6 a14 a15 a19 a20 a23 a24 a25 a26 a27 a28 p1) m_yX12_areLetters b_372 (ci := 12) rfl rfl rfl hP hD hS hA [0, 1] [] rfl (by decide) rfl (by decide) (by decide) rfl hl.1 rfl (Nat.le_of_ble_eq_true rfl) dX12_joined_2 ⟨(Nat.le_of_ble_eq_true rfl), (Nat.le_of_ble_eq_true rfl)⟩ ⟨(Nat.le_of_ble_eq_true rfl), (Nat.le_of_ble_eq_true rfl)⟩ (fun u1 H locs _ hP hD hS => ?_)
  have hP : va_P g.1 vwCl [(h0, .inr (12, [.int 0, .ref a1, .ref a2, .ref a3, .ref a4, .int 0, .ref a6, .int 0, .int 0, .int 0, .int 0, .int 0, .int 0, .int (-1), .ref a14, .ref a15, .int 0, .int 0, .int 0, .ref a19, .ref a20, .int 0, .int 0, .ref a23, .ref a24, .ref a25, .ref a26, .ref a27, .ref a28])), (a1, .inl (g.2 0, 225, .inl (fun _ => 0)))] H := hP
  have hD : va_D A [(h0, .inr (12, [.int 0, .ref a1, .ref a2, .ref a3, .ref a4, .int 0, .ref a6, .int 0, .int 0, .int 0, .int 0, .int 0, .int 0, .int (-1), .ref a14, .ref a15, .int 0, .int 0, .int 0, .ref a19, .ref a20, .int 0, .int 0, .ref a23, .ref a24, .ref a25, .ref a26, .ref a27, .ref a28])), (a1, .inl (g.2 0, 225, .inl (fun _ => 0)))] := hD
  refine W.eq (g2 := F0 m 5 ls [.int 0]) rfl ?_
  refine lv_if_eq (tgt := 20) hx hb dX12_joined_5 (by decide) (fun _ => ?_) (fun h => absurd h (by decide))
  refine lv_bipush (v := -2) hx hb dX12_joined_20 (by decide) ?_
  exact rt_i FX () rfl trivial (hP.sub [0, 1] rfl) (hD.sub [0, 1] (by decide) rfl) hS (Nat.le_of_ble_eq_true rfl) (Nat.le_of_ble_eq_true rfl) dX12_joined_22
set_option maxRecDepth 100000 in
set_option maxHeartbeats 4000000 in
theorem c_X12_letter (l : Launch) (g : GG) (h0 : Nat) (a1 : Nat) (a2 : Nat) (a3 : Nat) (a4 : Nat) (a6 : Nat) (a14 : Nat) (a15 : Nat) (a19 : Nat) (a20 : Nat) (a23 : Nat) (a24 : Nat) (a25 : Nat) (a26 : Nat) (a27 : Nat) (a28 : Nat) (p1 : Int32) (p2 : Int32) : Ct l g yX12_letter cX12_letter 3 (some .int) { frames := 2, cells := 0, slots := 0, locals := 41 } [.ref h0, .int p1, .int p2] [(h0, .inr (12, [.int 0, .ref a1, .ref a2, .ref a3, .ref a4, .int 0, .ref a6, .int 0, .int 0, .int 0, .int 0, .int 0, .int 0, .int (-1), .ref a14, .ref a15, .int 0, .int 0, .int 0, .ref a19, .ref a20, .int 0, .int 0, .ref a23, .ref a24, .ref a25, .ref a26, .ref a27, .ref a28])), (a1, .inl (g.2 0, 225, .inl (fun _ => 0)))] (S := Unit) (fun _ => some (.int (-2))) (fun _ => True) (fun u => [(h0, .inr (12, [.int 0, .ref a1, .ref a2, .ref a3, .ref a4, .int 0, .ref a6, .int 0, .int 0, .int 0, .int 0, .int 0, .int 0, .int (-1), .ref a14, .ref a15, .int 0, .int 0, .int 0, .ref a19, .ref a20, .int 0, .int 0, .ref a23, .ref a24, .ref a25, .ref a26, .ref a27, .ref a28])), (a1, .inl (g.2 0, 225, .inl (fun _ => 0)))]) := by
  refine Ct.of (by decide) (Nat.le_of_ble_eq_true rfl) ?_
  intro p e s m below meth c A ls FX hP hD hS hl
  obtain ⟨FC, hr, hlk, hKn, hA, hnm⟩ := id FX
  have FC : CallFix p m c cX12_letter 3 s _ BIG RX12 := FC
  obtain ⟨hx, hb, hml, hown, hB⟩ := id FC
  have hl : lv_has ls 3 [(0, .ref h0), (1, .int p1), (2, .int p2)] := hl
  refine lv_aload_n hx hb dX12_letter_0 rfl (lv_at hl 0 rfl) ?_
  refine lv_iload_n hx hb dX12_letter_1 rfl (lv_at hl 1 rfl) ?_
  refine call_V (As := [.int p1]) (rest := []) (wr := []) FC hKn (c_X12_areLetters l g h0 a1 a2 a3 a4 a6 a14 a15 a19 a20 a23 a24 a25 a26 a27 a28 p1) m_yX12_areLetters b_372 (ci := 12) rfl rfl rfl hP hD hS hA [0, 1] [] rfl (by decide) rfl (by decide) (by decide) rfl hl.1 rfl (Nat.le_of_ble_eq_true rfl) dX12_letter_2 ⟨(Nat.le_of_ble_eq_true rfl), (Nat.le_of_ble_eq_true rfl)⟩ ⟨(Nat.le_of_ble_eq_true rfl), (Nat.le_of_ble_eq_true rfl)⟩ (fun u1 H locs _ hP hD hS => ?_)
  have hP : va_P g.1 vwCl [(h0, .inr (12, [.int 0, .ref a1, .ref a2, .ref a3, .ref a4, .int 0, .ref a6, .int 0, .int 0, .int 0, .int 0, .int 0, .int 0, .int (-1), .ref a14, .ref a15, .int 0, .int 0, .int 0, .ref a19, .ref a20, .int 0, .int 0, .ref a23, .ref a24, .ref a25, .ref a26, .ref a27, .ref a28])), (a1, .inl (g.2 0, 225, .inl (fun _ => 0)))] H := hP
  have hD : va_D A [(h0, .inr (12, [.int 0, .ref a1, .ref a2, .ref a3, .ref a4, .int 0, .ref a6, .int 0, .int 0, .int 0, .int 0, .int 0, .int 0, .int (-1), .ref a14, .ref a15, .int 0, .int 0, .int 0, .ref a19, .ref a20, .int 0, .int 0, .ref a23, .ref a24, .ref a25, .ref a26, .ref a27, .ref a28])), (a1, .inl (g.2 0, 225, .inl (fun _ => 0)))] := hD
  refine W.eq (g2 := F0 m 5 ls [.int 0]) rfl ?_
  refine lv_if_eq (tgt := 27) hx hb dX12_letter_5 (by decide) (fun _ => ?_) (fun h => absurd h (by decide))
  refine lv_bipush (v := -2) hx hb dX12_letter_27 (by decide) ?_
  exact rt_i FX () rfl trivial (hP.sub [0, 1] rfl) (hD.sub [0, 1] (by decide) rfl) hS (Nat.le_of_ble_eq_true rfl) (Nat.le_of_ble_eq_true rfl) dX12_letter_29
